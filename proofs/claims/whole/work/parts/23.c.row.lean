def zH_64 : List Nat := []
theorem v_64_0 (xs : Option (List Int32)) (n : Nat) (b : Bool) (d : Nat) (ml : List Value) (t : T) (Q : Option Value → T → Prop) (st : List Value) : vc xs zH_64 (n + 1) b d 64 0 ml st t Q = vga ml 0 (fun v => vc xs zH_64 n true d 64 1 ml (.ref v :: st) t Q) := by
  rw [vc_q (o := (2, 0, 0, 0, [])) (by decide +kernel)]; rfl
theorem v_64_1 (xs : Option (List Int32)) (n : Nat) (b : Bool) (d : Nat) (ml : List Value) (t : T) (Q : Option Value → T → Prop) (u : Nat) (r : List Value) : vc xs zH_64 (n + 1) b d 64 1 ml (.ref u :: r) t Q = (vtag u = 12 ∧ vc xs zH_64 n true d 64 4 ml (.ref (tref t u 28) :: r) t Q) := by
  rw [vc_q (o := (25, 0, 12, 28, [])) (by decide +kernel)]; rfl
theorem v_64_4 (xs : Option (List Int32)) (n : Nat) (b : Bool) (d : Nat) (ml : List Value) (t : T) (Q : Option Value → T → Prop) (st : List Value) : vc xs zH_64 (n + 1) b d 64 4 ml st t Q = vgi ml 1 (fun v => vc xs zH_64 n true d 64 5 ml (.int v :: st) t Q) := by
  rw [vc_q (o := (1, 0, 1, 0, [])) (by decide +kernel)]; rfl
theorem v_64_5 (xs : Option (List Int32)) (n : Nat) (b : Bool) (d : Nat) (ml : List Value) (t : T) (Q : Option Value → T → Prop) (st : List Value) : vc xs zH_64 (n + 1) b d 64 5 ml st t Q = vgi ml 2 (fun v => vc xs zH_64 n true d 64 6 ml (.int v :: st) t Q) := by
  rw [vc_q (o := (1, 0, 2, 0, [])) (by decide +kernel)]; rfl
theorem v_64_6 (xs : Option (List Int32)) (n : Nat) (b : Bool) (d : Nat) (ml : List Value) (t : T) (Q : Option Value → T → Prop) (w v : Int32) (u : Nat) (r : List Value) : vc xs zH_64 (n + 1) b d 64 6 ml (.int w :: .int v :: .ref u :: r) t Q = (vtag u = 100 ∧ vinb v (vlen u) ∧ vc xs zH_64 n true d 64 7 ml r (tsi t u v.toNatClampNeg w) Q) := by
  rw [vc_q (o := (32, 0, 0, 0, [])) (by decide +kernel)]; rfl
theorem v_64_7 (xs : Option (List Int32)) (n : Nat) (b : Bool) (d : Nat) (ml : List Value) (t : T) (Q : Option Value → T → Prop) (st : List Value) : vc xs zH_64 (n + 1) b d 64 7 ml st t Q = vga ml 0 (fun v => vc xs zH_64 n true d 64 8 ml (.ref v :: st) t Q) := by
  rw [vc_q (o := (2, 0, 0, 0, [])) (by decide +kernel)]; rfl
theorem v_64_8 (xs : Option (List Int32)) (n : Nat) (b : Bool) (d : Nat) (ml : List Value) (t : T) (Q : Option Value → T → Prop) (u : Nat) (r : List Value) : vc xs zH_64 (n + 1) b d 64 8 ml (.ref u :: r) t Q = (vtag u = 12 ∧ vc xs zH_64 n true d 64 11 ml (.ref (tref t u 29) :: r) t Q) := by
  rw [vc_q (o := (25, 0, 12, 29, [])) (by decide +kernel)]; rfl
theorem v_64_11 (xs : Option (List Int32)) (n : Nat) (b : Bool) (d : Nat) (ml : List Value) (t : T) (Q : Option Value → T → Prop) (st : List Value) : vc xs zH_64 (n + 1) b d 64 11 ml st t Q = vgi ml 1 (fun v => vc xs zH_64 n true d 64 12 ml (.int v :: st) t Q) := by
  rw [vc_q (o := (1, 0, 1, 0, [])) (by decide +kernel)]; rfl
theorem v_64_12 (xs : Option (List Int32)) (n : Nat) (b : Bool) (d : Nat) (ml : List Value) (t : T) (Q : Option Value → T → Prop) (st : List Value) : vc xs zH_64 (n + 1) b d 64 12 ml st t Q = vc xs zH_64 n true d 64 13 ml (.int 0 :: st) t Q := by
  rw [vc_q (o := (0, 0, 0, 0, [])) (by decide +kernel)]; rfl
theorem v_64_13 (xs : Option (List Int32)) (n : Nat) (b : Bool) (d : Nat) (ml : List Value) (t : T) (Q : Option Value → T → Prop) (w v : Int32) (u : Nat) (r : List Value) : vc xs zH_64 (n + 1) b d 64 13 ml (.int w :: .int v :: .ref u :: r) t Q = (vtag u = 100 ∧ vinb v (vlen u) ∧ vc xs zH_64 n true d 64 14 ml r (tsi t u v.toNatClampNeg w) Q) := by
  rw [vc_q (o := (32, 0, 0, 0, [])) (by decide +kernel)]; rfl
theorem v_64_14 (xs : Option (List Int32)) (n : Nat) (b : Bool) (d : Nat) (ml : List Value) (t : T) (Q : Option Value → T → Prop)  : vc xs zH_64 (n + 1) b d 64 14 ml [] t Q = Q none t := by
  rw [vc_q (o := (43, 0, 0, 0, [])) (by decide +kernel)]; rfl
def zH_65 : List Nat := [11, 53, 116, 140, 196, 238, 303, 305]
theorem v_65_0 (xs : Option (List Int32)) (n : Nat) (b : Bool) (d : Nat) (ml : List Value) (t : T) (Q : Option Value → T → Prop) (st : List Value) : vc xs zH_65 (n + 1) b d 65 0 ml st t Q = vc xs zH_65 n true d 65 1 ml (.int 0 :: st) t Q := by
  rw [vc_q (o := (0, 0, 0, 0, [])) (by decide +kernel)]; rfl
theorem v_65_1 (xs : Option (List Int32)) (n : Nat) (b : Bool) (d : Nat) (ml : List Value) (t : T) (Q : Option Value → T → Prop) (v : Int32) (r : List Value) : vc xs zH_65 (n + 1) b d 65 1 ml (.int v :: r) t Q = vset ml 3 (.int v) (fun l => vc xs zH_65 n true d 65 2 l r t Q) := by
  rw [vc_q (o := (3, 0, 3, 0, [])) (by decide +kernel)]; rfl
theorem v_65_2 (xs : Option (List Int32)) (n : Nat) (b : Bool) (d : Nat) (ml : List Value) (t : T) (Q : Option Value → T → Prop) (st : List Value) : vc xs zH_65 (n + 1) b d 65 2 ml st t Q = vc xs zH_65 n true d 65 3 ml (.int 0 :: st) t Q := by
  rw [vc_q (o := (0, 0, 0, 0, [])) (by decide +kernel)]; rfl
theorem v_65_3 (xs : Option (List Int32)) (n : Nat) (b : Bool) (d : Nat) (ml : List Value) (t : T) (Q : Option Value → T → Prop) (v : Int32) (r : List Value) : vc xs zH_65 (n + 1) b d 65 3 ml (.int v :: r) t Q = vset ml 4 (.int v) (fun l => vc xs zH_65 n true d 65 5 l r t Q) := by
  rw [vc_q (o := (3, 0, 4, 1, [])) (by decide +kernel)]; rfl
theorem v_65_5 (xs : Option (List Int32)) (n : Nat) (b : Bool) (d : Nat) (ml : List Value) (t : T) (Q : Option Value → T → Prop) (st : List Value) : vc xs zH_65 (n + 1) b d 65 5 ml st t Q = vga ml 0 (fun v => vc xs zH_65 n true d 65 6 ml (.ref v :: st) t Q) := by
  rw [vc_q (o := (2, 0, 0, 0, [])) (by decide +kernel)]; rfl
theorem v_65_6 (xs : Option (List Int32)) (n : Nat) (b : Bool) (d : Nat) (ml : List Value) (t : T) (Q : Option Value → T → Prop) (st : List Value) : vc xs zH_65 (n + 1) b d 65 6 ml st t Q = vc xs zH_65 n true d 65 7 ml (.int 0 :: st) t Q := by
  rw [vc_q (o := (0, 0, 0, 0, [])) (by decide +kernel)]; rfl
theorem v_65_7 (xs : Option (List Int32)) (n : Nat) (b : Bool) (d : Nat) (ml : List Value) (t : T) (Q : Option Value → T → Prop) (st : List Value) : vc xs zH_65 (n + 1) b d 65 7 ml st t Q = vgi ml 2 (fun v => vc xs zH_65 n true d 65 8 ml (.int v :: st) t Q) := by
  rw [vc_q (o := (1, 0, 2, 0, [])) (by decide +kernel)]; rfl
theorem v_65_8 (xs : Option (List Int32)) (n : Nat) (b : Bool) (d : Nat) (ml : List Value) (t : T) (Q : Option Value → T → Prop) (st : List Value) : vc xs zH_65 (n + 1) b d 65 8 ml st t Q = (st.all zc1 = true ∧ vtk 3 st [] (fun as rest => rest.length ≤ 8 ∧ vrc as 12 (twc d 64 as t (fun r t' => vc xs zH_65 n true d 65 11 ml (r.toList ++ rest) t' Q)))) := by
  rw [vc_q (o := (36, 0, 64, 2, [(0, 12)])) (by decide +kernel)]; rfl
theorem v_65_11 (xs : Option (List Int32)) (n : Nat) (d : Nat) (ml : List Value) (t : T) (Q : Option Value → T → Prop) (st : List Value) : vc xs zH_65 (n + 1) false d 65 11 ml st t Q = vgi ml 3 (fun v => vc xs zH_65 n true d 65 12 ml (.int v :: st) t Q) := by
  rw [vc_q (o := (1, 0, 3, 0, [])) (by decide +kernel)]; rfl
theorem h_65_11 (xs : Option (List Int32)) (n d : Nat) (ml st : List Value) (t : T) (Q : Option Value → T → Prop) : vc xs zH_65 (n + 1) true d 65 11 ml st t Q = twp xs d 65 11 ml st t Q := id rfl
theorem v_65_12 (xs : Option (List Int32)) (n : Nat) (b : Bool) (d : Nat) (ml : List Value) (t : T) (Q : Option Value → T → Prop) (u : Int32) (r : List Value) : vc xs zH_65 (n + 1) b d 65 12 ml (.int u :: r) t Q = (if u < 0 then vc xs zH_65 n true d 65 329 ml r t Q else vc xs zH_65 n true d 65 15 ml r t Q) := by
  rw [vc_q (o := (21, 0, 329, 2, [])) (by decide +kernel)]; rfl
theorem v_65_15 (xs : Option (List Int32)) (n : Nat) (b : Bool) (d : Nat) (ml : List Value) (t : T) (Q : Option Value → T → Prop) (st : List Value) : vc xs zH_65 (n + 1) b d 65 15 ml st t Q = vga ml 0 (fun v => vc xs zH_65 n true d 65 16 ml (.ref v :: st) t Q) := by
  rw [vc_q (o := (2, 0, 0, 0, [])) (by decide +kernel)]; rfl
theorem v_65_16 (xs : Option (List Int32)) (n : Nat) (b : Bool) (d : Nat) (ml : List Value) (t : T) (Q : Option Value → T → Prop) (u : Nat) (r : List Value) : vc xs zH_65 (n + 1) b d 65 16 ml (.ref u :: r) t Q = (vtag u = 12 ∧ vc xs zH_65 n true d 65 19 ml (.ref (tref t u 28) :: r) t Q) := by
  rw [vc_q (o := (25, 0, 12, 28, [])) (by decide +kernel)]; rfl
theorem v_65_19 (xs : Option (List Int32)) (n : Nat) (b : Bool) (d : Nat) (ml : List Value) (t : T) (Q : Option Value → T → Prop) (st : List Value) : vc xs zH_65 (n + 1) b d 65 19 ml st t Q = vgi ml 3 (fun v => vc xs zH_65 n true d 65 20 ml (.int v :: st) t Q) := by
  rw [vc_q (o := (1, 0, 3, 0, [])) (by decide +kernel)]; rfl
theorem v_65_20 (xs : Option (List Int32)) (n : Nat) (b : Bool) (d : Nat) (ml : List Value) (t : T) (Q : Option Value → T → Prop) (v : Int32) (u : Nat) (r : List Value) : vc xs zH_65 (n + 1) b d 65 20 ml (.int v :: .ref u :: r) t Q = (vtag u = 100 ∧ vinb v (vlen u) ∧ vc xs zH_65 n true d 65 21 ml (.int (t.1 u v.toNatClampNeg) :: r) t Q) := by
  rw [vc_q (o := (29, 0, 0, 0, [])) (by decide +kernel)]; rfl
theorem v_65_21 (xs : Option (List Int32)) (n : Nat) (b : Bool) (d : Nat) (ml : List Value) (t : T) (Q : Option Value → T → Prop) (v : Int32) (r : List Value) : vc xs zH_65 (n + 1) b d 65 21 ml (.int v :: r) t Q = vset ml 5 (.int v) (fun l => vc xs zH_65 n true d 65 23 l r t Q) := by
  rw [vc_q (o := (3, 0, 5, 1, [])) (by decide +kernel)]; rfl
theorem v_65_23 (xs : Option (List Int32)) (n : Nat) (b : Bool) (d : Nat) (ml : List Value) (t : T) (Q : Option Value → T → Prop) (st : List Value) : vc xs zH_65 (n + 1) b d 65 23 ml st t Q = vga ml 0 (fun v => vc xs zH_65 n true d 65 24 ml (.ref v :: st) t Q) := by
  rw [vc_q (o := (2, 0, 0, 0, [])) (by decide +kernel)]; rfl
theorem v_65_24 (xs : Option (List Int32)) (n : Nat) (b : Bool) (d : Nat) (ml : List Value) (t : T) (Q : Option Value → T → Prop) (u : Nat) (r : List Value) : vc xs zH_65 (n + 1) b d 65 24 ml (.ref u :: r) t Q = (vtag u = 12 ∧ vc xs zH_65 n true d 65 27 ml (.ref (tref t u 2) :: r) t Q) := by
  rw [vc_q (o := (25, 0, 12, 2, [])) (by decide +kernel)]; rfl
theorem v_65_27 (xs : Option (List Int32)) (n : Nat) (b : Bool) (d : Nat) (ml : List Value) (t : T) (Q : Option Value → T → Prop) (st : List Value) : vc xs zH_65 (n + 1) b d 65 27 ml st t Q = vgi ml 5 (fun v => vc xs zH_65 n true d 65 29 ml (.int v :: st) t Q) := by
  rw [vc_q (o := (1, 0, 5, 1, [])) (by decide +kernel)]; rfl
theorem v_65_29 (xs : Option (List Int32)) (n : Nat) (b : Bool) (d : Nat) (ml : List Value) (t : T) (Q : Option Value → T → Prop) (v : Int32) (u : Nat) (r : List Value) : vc xs zH_65 (n + 1) b d 65 29 ml (.int v :: .ref u :: r) t Q = (vtag u = 100 ∧ vinb v (vlen u) ∧ vc xs zH_65 n true d 65 30 ml (.int (t.1 u v.toNatClampNeg) :: r) t Q) := by
  rw [vc_q (o := (29, 0, 0, 0, [])) (by decide +kernel)]; rfl
theorem v_65_30 (xs : Option (List Int32)) (n : Nat) (b : Bool) (d : Nat) (ml : List Value) (t : T) (Q : Option Value → T → Prop) (v : Int32) (r : List Value) : vc xs zH_65 (n + 1) b d 65 30 ml (.int v :: r) t Q = vset ml 6 (.int v) (fun l => vc xs zH_65 n true d 65 32 l r t Q) := by
  rw [vc_q (o := (3, 0, 6, 1, [])) (by decide +kernel)]; rfl
theorem v_65_32 (xs : Option (List Int32)) (n : Nat) (b : Bool) (d : Nat) (ml : List Value) (t : T) (Q : Option Value → T → Prop) (st : List Value) : vc xs zH_65 (n + 1) b d 65 32 ml st t Q = vga ml 0 (fun v => vc xs zH_65 n true d 65 33 ml (.ref v :: st) t Q) := by
  rw [vc_q (o := (2, 0, 0, 0, [])) (by decide +kernel)]; rfl
theorem v_65_33 (xs : Option (List Int32)) (n : Nat) (b : Bool) (d : Nat) (ml : List Value) (t : T) (Q : Option Value → T → Prop) (u : Nat) (r : List Value) : vc xs zH_65 (n + 1) b d 65 33 ml (.ref u :: r) t Q = (vtag u = 12 ∧ vc xs zH_65 n true d 65 36 ml (.ref (tref t u 29) :: r) t Q) := by
  rw [vc_q (o := (25, 0, 12, 29, [])) (by decide +kernel)]; rfl
theorem v_65_36 (xs : Option (List Int32)) (n : Nat) (b : Bool) (d : Nat) (ml : List Value) (t : T) (Q : Option Value → T → Prop) (st : List Value) : vc xs zH_65 (n + 1) b d 65 36 ml st t Q = vgi ml 3 (fun v => vc xs zH_65 n true d 65 37 ml (.int v :: st) t Q) := by
  rw [vc_q (o := (1, 0, 3, 0, [])) (by decide +kernel)]; rfl
theorem v_65_37 (xs : Option (List Int32)) (n : Nat) (b : Bool) (d : Nat) (ml : List Value) (t : T) (Q : Option Value → T → Prop) (v : Int32) (u : Nat) (r : List Value) : vc xs zH_65 (n + 1) b d 65 37 ml (.int v :: .ref u :: r) t Q = (vtag u = 100 ∧ vinb v (vlen u) ∧ vc xs zH_65 n true d 65 38 ml (.int (t.1 u v.toNatClampNeg) :: r) t Q) := by
  rw [vc_q (o := (29, 0, 0, 0, [])) (by decide +kernel)]; rfl
theorem v_65_38 (xs : Option (List Int32)) (n : Nat) (b : Bool) (d : Nat) (ml : List Value) (t : T) (Q : Option Value → T → Prop) (v : Int32) (r : List Value) : vc xs zH_65 (n + 1) b d 65 38 ml (.int v :: r) t Q = vset ml 7 (.int v) (fun l => vc xs zH_65 n true d 65 40 l r t Q) := by
  rw [vc_q (o := (3, 0, 7, 1, [])) (by decide +kernel)]; rfl
theorem v_65_40 (xs : Option (List Int32)) (n : Nat) (b : Bool) (d : Nat) (ml : List Value) (t : T) (Q : Option Value → T → Prop) (st : List Value) : vc xs zH_65 (n + 1) b d 65 40 ml st t Q = vga ml 0 (fun v => vc xs zH_65 n true d 65 41 ml (.ref v :: st) t Q) := by
  rw [vc_q (o := (2, 0, 0, 0, [])) (by decide +kernel)]; rfl
theorem v_65_41 (xs : Option (List Int32)) (n : Nat) (b : Bool) (d : Nat) (ml : List Value) (t : T) (Q : Option Value → T → Prop) (u : Nat) (r : List Value) : vc xs zH_65 (n + 1) b d 65 41 ml (.ref u :: r) t Q = (vtag u = 12 ∧ vc xs zH_65 n true d 65 44 ml (.ref (tref t u 29) :: r) t Q) := by
  rw [vc_q (o := (25, 0, 12, 29, [])) (by decide +kernel)]; rfl
theorem v_65_44 (xs : Option (List Int32)) (n : Nat) (b : Bool) (d : Nat) (ml : List Value) (t : T) (Q : Option Value → T → Prop) (st : List Value) : vc xs zH_65 (n + 1) b d 65 44 ml st t Q = vgi ml 3 (fun v => vc xs zH_65 n true d 65 45 ml (.int v :: st) t Q) := by
  rw [vc_q (o := (1, 0, 3, 0, [])) (by decide +kernel)]; rfl
theorem v_65_45 (xs : Option (List Int32)) (n : Nat) (b : Bool) (d : Nat) (ml : List Value) (t : T) (Q : Option Value → T → Prop) (v : Int32) (u : Nat) (r : List Value) : vc xs zH_65 (n + 1) b d 65 45 ml (.int v :: .ref u :: r) t Q = vc xs zH_65 n true d 65 46 ml (.int v :: .ref u :: .int v :: .ref u :: r) t Q := by
  rw [vc_q (o := (18, 0, 0, 0, [])) (by decide +kernel)]; rfl
theorem v_65_46 (xs : Option (List Int32)) (n : Nat) (b : Bool) (d : Nat) (ml : List Value) (t : T) (Q : Option Value → T → Prop) (v : Int32) (u : Nat) (r : List Value) : vc xs zH_65 (n + 1) b d 65 46 ml (.int v :: .ref u :: r) t Q = (vtag u = 100 ∧ vinb v (vlen u) ∧ vc xs zH_65 n true d 65 47 ml (.int (t.1 u v.toNatClampNeg) :: r) t Q) := by
  rw [vc_q (o := (29, 0, 0, 0, [])) (by decide +kernel)]; rfl
theorem v_65_47 (xs : Option (List Int32)) (n : Nat) (b : Bool) (d : Nat) (ml : List Value) (t : T) (Q : Option Value → T → Prop) (st : List Value) : vc xs zH_65 (n + 1) b d 65 47 ml st t Q = vc xs zH_65 n true d 65 48 ml (.int 1 :: st) t Q := by
  rw [vc_q (o := (0, 1, 0, 0, [])) (by decide +kernel)]; rfl
theorem v_65_48 (xs : Option (List Int32)) (n : Nat) (b : Bool) (d : Nat) (ml : List Value) (t : T) (Q : Option Value → T → Prop) (u v : Int32) (r : List Value) : vc xs zH_65 (n + 1) b d 65 48 ml (.int v :: .int u :: r) t Q = vc xs zH_65 n true d 65 49 ml (.int (u + v) :: r) t Q := by
  rw [vc_q (o := (6, 0, 0, 0, [])) (by decide +kernel)]; rfl
theorem v_65_49 (xs : Option (List Int32)) (n : Nat) (b : Bool) (d : Nat) (ml : List Value) (t : T) (Q : Option Value → T → Prop) (w v : Int32) (u : Nat) (r : List Value) : vc xs zH_65 (n + 1) b d 65 49 ml (.int w :: .int v :: .ref u :: r) t Q = (vtag u = 100 ∧ vinb v (vlen u) ∧ vc xs zH_65 n true d 65 50 ml r (tsi t u v.toNatClampNeg w) Q) := by
  rw [vc_q (o := (32, 0, 0, 0, [])) (by decide +kernel)]; rfl
theorem v_65_50 (xs : Option (List Int32)) (n : Nat) (b : Bool) (d : Nat) (ml : List Value) (t : T) (Q : Option Value → T → Prop) (st : List Value) : vc xs zH_65 (n + 1) b d 65 50 ml st t Q = vc xs zH_65 n true d 65 51 ml (.int (-1) :: st) t Q := by
  rw [vc_q (o := (0, (-1), 0, 0, [])) (by decide +kernel)]; rfl
theorem v_65_51 (xs : Option (List Int32)) (n : Nat) (b : Bool) (d : Nat) (ml : List Value) (t : T) (Q : Option Value → T → Prop) (v : Int32) (r : List Value) : vc xs zH_65 (n + 1) b d 65 51 ml (.int v :: r) t Q = vset ml 8 (.int v) (fun l => vc xs zH_65 n true d 65 53 l r t Q) := by
  rw [vc_q (o := (3, 0, 8, 1, [])) (by decide +kernel)]; rfl
theorem v_65_53 (xs : Option (List Int32)) (n : Nat) (d : Nat) (ml : List Value) (t : T) (Q : Option Value → T → Prop) (st : List Value) : vc xs zH_65 (n + 1) false d 65 53 ml st t Q = vgi ml 6 (fun v => vc xs zH_65 n true d 65 55 ml (.int v :: st) t Q) := by
  rw [vc_q (o := (1, 0, 6, 1, [])) (by decide +kernel)]; rfl
theorem h_65_53 (xs : Option (List Int32)) (n d : Nat) (ml st : List Value) (t : T) (Q : Option Value → T → Prop) : vc xs zH_65 (n + 1) true d 65 53 ml st t Q = twp xs d 65 53 ml st t Q := id rfl
theorem v_65_55 (xs : Option (List Int32)) (n : Nat) (b : Bool) (d : Nat) (ml : List Value) (t : T) (Q : Option Value → T → Prop) (st : List Value) : vc xs zH_65 (n + 1) b d 65 55 ml st t Q = vc xs zH_65 n true d 65 56 ml (.int 3 :: st) t Q := by
  rw [vc_q (o := (0, 3, 0, 0, [])) (by decide +kernel)]; rfl
theorem v_65_56 (xs : Option (List Int32)) (n : Nat) (b : Bool) (d : Nat) (ml : List Value) (t : T) (Q : Option Value → T → Prop) (u v : Int32) (r : List Value) : vc xs zH_65 (n + 1) b d 65 56 ml (.int v :: .int u :: r) t Q = (if u < v then vc xs zH_65 n true d 65 59 ml r t Q else vc xs zH_65 n true d 65 71 ml r t Q) := by
  rw [vc_q (o := (20, 0, 71, 3, [])) (by decide +kernel)]; rfl
theorem v_65_59 (xs : Option (List Int32)) (n : Nat) (b : Bool) (d : Nat) (ml : List Value) (t : T) (Q : Option Value → T → Prop) (st : List Value) : vc xs zH_65 (n + 1) b d 65 59 ml st t Q = vga ml 0 (fun v => vc xs zH_65 n true d 65 60 ml (.ref v :: st) t Q) := by
  rw [vc_q (o := (2, 0, 0, 0, [])) (by decide +kernel)]; rfl
theorem v_65_60 (xs : Option (List Int32)) (n : Nat) (b : Bool) (d : Nat) (ml : List Value) (t : T) (Q : Option Value → T → Prop) (st : List Value) : vc xs zH_65 (n + 1) b d 65 60 ml st t Q = vgi ml 1 (fun v => vc xs zH_65 n true d 65 61 ml (.int v :: st) t Q) := by
  rw [vc_q (o := (1, 0, 1, 0, [])) (by decide +kernel)]; rfl
theorem v_65_61 (xs : Option (List Int32)) (n : Nat) (b : Bool) (d : Nat) (ml : List Value) (t : T) (Q : Option Value → T → Prop) (st : List Value) : vc xs zH_65 (n + 1) b d 65 61 ml st t Q = vgi ml 5 (fun v => vc xs zH_65 n true d 65 63 ml (.int v :: st) t Q) := by
  rw [vc_q (o := (1, 0, 5, 1, [])) (by decide +kernel)]; rfl
theorem v_65_63 (xs : Option (List Int32)) (n : Nat) (b : Bool) (d : Nat) (ml : List Value) (t : T) (Q : Option Value → T → Prop) (st : List Value) : vc xs zH_65 (n + 1) b d 65 63 ml st t Q = (st.all zc1 = true ∧ vtk 3 st [] (fun as rest => rest.length ≤ 8 ∧ vrc as 12 (twc d 62 as t (fun r t' => vc xs zH_65 n true d 65 66 ml (r.toList ++ rest) t' Q)))) := by
  rw [vc_q (o := (36, 0, 62, 2, [(0, 12)])) (by decide +kernel)]; rfl
theorem v_65_66 (xs : Option (List Int32)) (n : Nat) (b : Bool) (d : Nat) (ml : List Value) (t : T) (Q : Option Value → T → Prop) (v : Int32) (r : List Value) : vc xs zH_65 (n + 1) b d 65 66 ml (.int v :: r) t Q = vset ml 4 (.int v) (fun l => vc xs zH_65 n true d 65 68 l r t Q) := by
  rw [vc_q (o := (3, 0, 4, 1, [])) (by decide +kernel)]; rfl
theorem v_65_68 (xs : Option (List Int32)) (n : Nat) (b : Bool) (d : Nat) (ml : List Value) (t : T) (Q : Option Value → T → Prop) (st : List Value) : vc xs zH_65 (n + 1) b d 65 68 ml st t Q = vc xs zH_65 n true d 65 305 ml st t Q := by
  rw [vc_q (o := (22, 0, 305, 0, [])) (by decide +kernel)]; rfl
theorem v_65_71 (xs : Option (List Int32)) (n : Nat) (b : Bool) (d : Nat) (ml : List Value) (t : T) (Q : Option Value → T → Prop) (st : List Value) : vc xs zH_65 (n + 1) b d 65 71 ml st t Q = vgi ml 6 (fun v => vc xs zH_65 n true d 65 73 ml (.int v :: st) t Q) := by
  rw [vc_q (o := (1, 0, 6, 1, [])) (by decide +kernel)]; rfl
theorem v_65_73 (xs : Option (List Int32)) (n : Nat) (b : Bool) (d : Nat) (ml : List Value) (t : T) (Q : Option Value → T → Prop) (st : List Value) : vc xs zH_65 (n + 1) b d 65 73 ml st t Q = vc xs zH_65 n true d 65 75 ml (.int 6 :: st) t Q := by
  rw [vc_q (o := (0, 6, 1, 0, [])) (by decide +kernel)]; rfl
theorem v_65_75 (xs : Option (List Int32)) (n : Nat) (b : Bool) (d : Nat) (ml : List Value) (t : T) (Q : Option Value → T → Prop) (u v : Int32) (r : List Value) : vc xs zH_65 (n + 1) b d 65 75 ml (.int v :: .int u :: r) t Q = (if u < v then vc xs zH_65 n true d 65 78 ml r t Q else vc xs zH_65 n true d 65 201 ml r t Q) := by
  rw [vc_q (o := (20, 0, 201, 3, [])) (by decide +kernel)]; rfl
theorem v_65_78 (xs : Option (List Int32)) (n : Nat) (b : Bool) (d : Nat) (ml : List Value) (t : T) (Q : Option Value → T → Prop) (st : List Value) : vc xs zH_65 (n + 1) b d 65 78 ml st t Q = vgi ml 7 (fun v => vc xs zH_65 n true d 65 80 ml (.int v :: st) t Q) := by
  rw [vc_q (o := (1, 0, 7, 1, [])) (by decide +kernel)]; rfl
theorem v_65_80 (xs : Option (List Int32)) (n : Nat) (b : Bool) (d : Nat) (ml : List Value) (t : T) (Q : Option Value → T → Prop) (u : Int32) (r : List Value) : vc xs zH_65 (n + 1) b d 65 80 ml (.int u :: r) t Q = (if u = 0 then vc xs zH_65 n true d 65 83 ml r t Q else vc xs zH_65 n true d 65 93 ml r t Q) := by
  rw [vc_q (o := (21, 0, 93, 1, [])) (by decide +kernel)]; rfl
theorem v_65_83 (xs : Option (List Int32)) (n : Nat) (b : Bool) (d : Nat) (ml : List Value) (t : T) (Q : Option Value → T → Prop) (st : List Value) : vc xs zH_65 (n + 1) b d 65 83 ml st t Q = vga ml 0 (fun v => vc xs zH_65 n true d 65 84 ml (.ref v :: st) t Q) := by
  rw [vc_q (o := (2, 0, 0, 0, [])) (by decide +kernel)]; rfl
theorem v_65_84 (xs : Option (List Int32)) (n : Nat) (b : Bool) (d : Nat) (ml : List Value) (t : T) (Q : Option Value → T → Prop) (u : Nat) (r : List Value) : vc xs zH_65 (n + 1) b d 65 84 ml (.ref u :: r) t Q = (vtag u = 12 ∧ vc xs zH_65 n true d 65 87 ml (.ref (tref t u 5) :: r) t Q) := by
  rw [vc_q (o := (25, 0, 12, 5, [])) (by decide +kernel)]; rfl
theorem v_65_87 (xs : Option (List Int32)) (n : Nat) (b : Bool) (d : Nat) (ml : List Value) (t : T) (Q : Option Value → T → Prop) (st : List Value) : vc xs zH_65 (n + 1) b d 65 87 ml st t Q = vgi ml 5 (fun v => vc xs zH_65 n true d 65 89 ml (.int v :: st) t Q) := by
  rw [vc_q (o := (1, 0, 5, 1, [])) (by decide +kernel)]; rfl
theorem v_65_89 (xs : Option (List Int32)) (n : Nat) (b : Bool) (d : Nat) (ml : List Value) (t : T) (Q : Option Value → T → Prop) (v : Int32) (u : Nat) (r : List Value) : vc xs zH_65 (n + 1) b d 65 89 ml (.int v :: .ref u :: r) t Q = (vtag u = 100 ∧ vinb v (vlen u) ∧ vc xs zH_65 n true d 65 90 ml (.int (t.1 u v.toNatClampNeg) :: r) t Q) := by
  rw [vc_q (o := (29, 0, 0, 0, [])) (by decide +kernel)]; rfl
theorem v_65_90 (xs : Option (List Int32)) (n : Nat) (b : Bool) (d : Nat) (ml : List Value) (t : T) (Q : Option Value → T → Prop) (st : List Value) : vc xs zH_65 (n + 1) b d 65 90 ml st t Q = vc xs zH_65 n true d 65 116 ml st t Q := by
  rw [vc_q (o := (22, 0, 116, 0, [])) (by decide +kernel)]; rfl
theorem v_65_93 (xs : Option (List Int32)) (n : Nat) (b : Bool) (d : Nat) (ml : List Value) (t : T) (Q : Option Value → T → Prop) (st : List Value) : vc xs zH_65 (n + 1) b d 65 93 ml st t Q = vgi ml 7 (fun v => vc xs zH_65 n true d 65 95 ml (.int v :: st) t Q) := by
  rw [vc_q (o := (1, 0, 7, 1, [])) (by decide +kernel)]; rfl
theorem v_65_95 (xs : Option (List Int32)) (n : Nat) (b : Bool) (d : Nat) (ml : List Value) (t : T) (Q : Option Value → T → Prop) (st : List Value) : vc xs zH_65 (n + 1) b d 65 95 ml st t Q = vc xs zH_65 n true d 65 96 ml (.int 1 :: st) t Q := by
  rw [vc_q (o := (0, 1, 0, 0, [])) (by decide +kernel)]; rfl
theorem v_65_96 (xs : Option (List Int32)) (n : Nat) (b : Bool) (d : Nat) (ml : List Value) (t : T) (Q : Option Value → T → Prop) (u v : Int32) (r : List Value) : vc xs zH_65 (n + 1) b d 65 96 ml (.int v :: .int u :: r) t Q = (if u = v then vc xs zH_65 n true d 65 99 ml r t Q else vc xs zH_65 n true d 65 115 ml r t Q) := by
  rw [vc_q (o := (20, 0, 115, 1, [])) (by decide +kernel)]; rfl
theorem v_65_99 (xs : Option (List Int32)) (n : Nat) (b : Bool) (d : Nat) (ml : List Value) (t : T) (Q : Option Value → T → Prop) (st : List Value) : vc xs zH_65 (n + 1) b d 65 99 ml st t Q = vgi ml 6 (fun v => vc xs zH_65 n true d 65 101 ml (.int v :: st) t Q) := by
  rw [vc_q (o := (1, 0, 6, 1, [])) (by decide +kernel)]; rfl
theorem v_65_101 (xs : Option (List Int32)) (n : Nat) (b : Bool) (d : Nat) (ml : List Value) (t : T) (Q : Option Value → T → Prop) (st : List Value) : vc xs zH_65 (n + 1) b d 65 101 ml st t Q = vc xs zH_65 n true d 65 102 ml (.int 3 :: st) t Q := by
  rw [vc_q (o := (0, 3, 0, 0, [])) (by decide +kernel)]; rfl
theorem v_65_102 (xs : Option (List Int32)) (n : Nat) (b : Bool) (d : Nat) (ml : List Value) (t : T) (Q : Option Value → T → Prop) (u v : Int32) (r : List Value) : vc xs zH_65 (n + 1) b d 65 102 ml (.int v :: .int u :: r) t Q = (if v < u then vc xs zH_65 n true d 65 105 ml r t Q else vc xs zH_65 n true d 65 115 ml r t Q) := by
  rw [vc_q (o := (20, 0, 115, 5, [])) (by decide +kernel)]; rfl
theorem v_65_105 (xs : Option (List Int32)) (n : Nat) (b : Bool) (d : Nat) (ml : List Value) (t : T) (Q : Option Value → T → Prop) (st : List Value) : vc xs zH_65 (n + 1) b d 65 105 ml st t Q = vga ml 0 (fun v => vc xs zH_65 n true d 65 106 ml (.ref v :: st) t Q) := by
  rw [vc_q (o := (2, 0, 0, 0, [])) (by decide +kernel)]; rfl
theorem v_65_106 (xs : Option (List Int32)) (n : Nat) (b : Bool) (d : Nat) (ml : List Value) (t : T) (Q : Option Value → T → Prop) (u : Nat) (r : List Value) : vc xs zH_65 (n + 1) b d 65 106 ml (.ref u :: r) t Q = (vtag u = 12 ∧ vc xs zH_65 n true d 65 109 ml (.ref (tref t u 6) :: r) t Q) := by
  rw [vc_q (o := (25, 0, 12, 6, [])) (by decide +kernel)]; rfl
theorem v_65_109 (xs : Option (List Int32)) (n : Nat) (b : Bool) (d : Nat) (ml : List Value) (t : T) (Q : Option Value → T → Prop) (st : List Value) : vc xs zH_65 (n + 1) b d 65 109 ml st t Q = vgi ml 5 (fun v => vc xs zH_65 n true d 65 111 ml (.int v :: st) t Q) := by
  rw [vc_q (o := (1, 0, 5, 1, [])) (by decide +kernel)]; rfl
theorem v_65_111 (xs : Option (List Int32)) (n : Nat) (b : Bool) (d : Nat) (ml : List Value) (t : T) (Q : Option Value → T → Prop) (v : Int32) (u : Nat) (r : List Value) : vc xs zH_65 (n + 1) b d 65 111 ml (.int v :: .ref u :: r) t Q = (vtag u = 100 ∧ vinb v (vlen u) ∧ vc xs zH_65 n true d 65 112 ml (.int (t.1 u v.toNatClampNeg) :: r) t Q) := by
  rw [vc_q (o := (29, 0, 0, 0, [])) (by decide +kernel)]; rfl
theorem v_65_112 (xs : Option (List Int32)) (n : Nat) (b : Bool) (d : Nat) (ml : List Value) (t : T) (Q : Option Value → T → Prop) (st : List Value) : vc xs zH_65 (n + 1) b d 65 112 ml st t Q = vc xs zH_65 n true d 65 116 ml st t Q := by
  rw [vc_q (o := (22, 0, 116, 0, [])) (by decide +kernel)]; rfl
theorem v_65_115 (xs : Option (List Int32)) (n : Nat) (b : Bool) (d : Nat) (ml : List Value) (t : T) (Q : Option Value → T → Prop) (st : List Value) : vc xs zH_65 (n + 1) b d 65 115 ml st t Q = vc xs zH_65 n true d 65 116 ml (.int (-1) :: st) t Q := by
  rw [vc_q (o := (0, (-1), 0, 0, [])) (by decide +kernel)]; rfl
theorem v_65_116 (xs : Option (List Int32)) (n : Nat) (d : Nat) (ml : List Value) (t : T) (Q : Option Value → T → Prop) (v : Int32) (r : List Value) : vc xs zH_65 (n + 1) false d 65 116 ml (.int v :: r) t Q = vset ml 8 (.int v) (fun l => vc xs zH_65 n true d 65 118 l r t Q) := by
  rw [vc_q (o := (3, 0, 8, 1, [])) (by decide +kernel)]; rfl
theorem h_65_116 (xs : Option (List Int32)) (n d : Nat) (ml st : List Value) (t : T) (Q : Option Value → T → Prop) : vc xs zH_65 (n + 1) true d 65 116 ml st t Q = twp xs d 65 116 ml st t Q := id rfl
theorem v_65_118 (xs : Option (List Int32)) (n : Nat) (b : Bool) (d : Nat) (ml : List Value) (t : T) (Q : Option Value → T → Prop) (st : List Value) : vc xs zH_65 (n + 1) b d 65 118 ml st t Q = vga ml 0 (fun v => vc xs zH_65 n true d 65 119 ml (.ref v :: st) t Q) := by
  rw [vc_q (o := (2, 0, 0, 0, [])) (by decide +kernel)]; rfl
theorem v_65_119 (xs : Option (List Int32)) (n : Nat) (b : Bool) (d : Nat) (ml : List Value) (t : T) (Q : Option Value → T → Prop) (u : Nat) (r : List Value) : vc xs zH_65 (n + 1) b d 65 119 ml (.ref u :: r) t Q = (vtag u = 12 ∧ vc xs zH_65 n true d 65 122 ml (.ref (tref t u 30) :: r) t Q) := by
  rw [vc_q (o := (25, 0, 12, 30, [])) (by decide +kernel)]; rfl
theorem v_65_122 (xs : Option (List Int32)) (n : Nat) (b : Bool) (d : Nat) (ml : List Value) (t : T) (Q : Option Value → T → Prop) (st : List Value) : vc xs zH_65 (n + 1) b d 65 122 ml st t Q = vgi ml 3 (fun v => vc xs zH_65 n true d 65 123 ml (.int v :: st) t Q) := by
  rw [vc_q (o := (1, 0, 3, 0, [])) (by decide +kernel)]; rfl
theorem v_65_123 (xs : Option (List Int32)) (n : Nat) (b : Bool) (d : Nat) (ml : List Value) (t : T) (Q : Option Value → T → Prop) (st : List Value) : vc xs zH_65 (n + 1) b d 65 123 ml st t Q = vgi ml 7 (fun v => vc xs zH_65 n true d 65 125 ml (.int v :: st) t Q) := by
  rw [vc_q (o := (1, 0, 7, 1, [])) (by decide +kernel)]; rfl
theorem v_65_125 (xs : Option (List Int32)) (n : Nat) (b : Bool) (d : Nat) (ml : List Value) (t : T) (Q : Option Value → T → Prop) (st : List Value) : vc xs zH_65 (n + 1) b d 65 125 ml st t Q = vc xs zH_65 n true d 65 126 ml (.int 1 :: st) t Q := by
  rw [vc_q (o := (0, 1, 0, 0, [])) (by decide +kernel)]; rfl
theorem v_65_126 (xs : Option (List Int32)) (n : Nat) (b : Bool) (d : Nat) (ml : List Value) (t : T) (Q : Option Value → T → Prop) (u v : Int32) (r : List Value) : vc xs zH_65 (n + 1) b d 65 126 ml (.int v :: .int u :: r) t Q = (if u = v then vc xs zH_65 n true d 65 129 ml r t Q else vc xs zH_65 n true d 65 134 ml r t Q) := by
  rw [vc_q (o := (20, 0, 134, 1, [])) (by decide +kernel)]; rfl
theorem v_65_129 (xs : Option (List Int32)) (n : Nat) (b : Bool) (d : Nat) (ml : List Value) (t : T) (Q : Option Value → T → Prop) (st : List Value) : vc xs zH_65 (n + 1) b d 65 129 ml st t Q = vgi ml 4 (fun v => vc xs zH_65 n true d 65 131 ml (.int v :: st) t Q) := by
  rw [vc_q (o := (1, 0, 4, 1, [])) (by decide +kernel)]; rfl
theorem v_65_131 (xs : Option (List Int32)) (n : Nat) (b : Bool) (d : Nat) (ml : List Value) (t : T) (Q : Option Value → T → Prop) (st : List Value) : vc xs zH_65 (n + 1) b d 65 131 ml st t Q = vc xs zH_65 n true d 65 140 ml st t Q := by
  rw [vc_q (o := (22, 0, 140, 0, [])) (by decide +kernel)]; rfl
theorem v_65_134 (xs : Option (List Int32)) (n : Nat) (b : Bool) (d : Nat) (ml : List Value) (t : T) (Q : Option Value → T → Prop) (st : List Value) : vc xs zH_65 (n + 1) b d 65 134 ml st t Q = vga ml 0 (fun v => vc xs zH_65 n true d 65 135 ml (.ref v :: st) t Q) := by
  rw [vc_q (o := (2, 0, 0, 0, [])) (by decide +kernel)]; rfl
theorem v_65_135 (xs : Option (List Int32)) (n : Nat) (b : Bool) (d : Nat) (ml : List Value) (t : T) (Q : Option Value → T → Prop) (u : Nat) (r : List Value) : vc xs zH_65 (n + 1) b d 65 135 ml (.ref u :: r) t Q = (vtag u = 12 ∧ vc xs zH_65 n true d 65 138 ml (.ref (tref t u 30) :: r) t Q) := by
  rw [vc_q (o := (25, 0, 12, 30, [])) (by decide +kernel)]; rfl
theorem v_65_138 (xs : Option (List Int32)) (n : Nat) (b : Bool) (d : Nat) (ml : List Value) (t : T) (Q : Option Value → T → Prop) (st : List Value) : vc xs zH_65 (n + 1) b d 65 138 ml st t Q = vgi ml 3 (fun v => vc xs zH_65 n true d 65 139 ml (.int v :: st) t Q) := by
  rw [vc_q (o := (1, 0, 3, 0, [])) (by decide +kernel)]; rfl
theorem v_65_139 (xs : Option (List Int32)) (n : Nat) (b : Bool) (d : Nat) (ml : List Value) (t : T) (Q : Option Value → T → Prop) (v : Int32) (u : Nat) (r : List Value) : vc xs zH_65 (n + 1) b d 65 139 ml (.int v :: .ref u :: r) t Q = (vtag u = 100 ∧ vinb v (vlen u) ∧ vc xs zH_65 n true d 65 140 ml (.int (t.1 u v.toNatClampNeg) :: r) t Q) := by
  rw [vc_q (o := (29, 0, 0, 0, [])) (by decide +kernel)]; rfl
theorem v_65_140 (xs : Option (List Int32)) (n : Nat) (d : Nat) (ml : List Value) (t : T) (Q : Option Value → T → Prop) (w v : Int32) (u : Nat) (r : List Value) : vc xs zH_65 (n + 1) false d 65 140 ml (.int w :: .int v :: .ref u :: r) t Q = (vtag u = 100 ∧ vinb v (vlen u) ∧ vc xs zH_65 n true d 65 141 ml r (tsi t u v.toNatClampNeg w) Q) := by
  rw [vc_q (o := (32, 0, 0, 0, [])) (by decide +kernel)]; rfl
theorem h_65_140 (xs : Option (List Int32)) (n d : Nat) (ml st : List Value) (t : T) (Q : Option Value → T → Prop) : vc xs zH_65 (n + 1) true d 65 140 ml st t Q = twp xs d 65 140 ml st t Q := id rfl
theorem v_65_141 (xs : Option (List Int32)) (n : Nat) (b : Bool) (d : Nat) (ml : List Value) (t : T) (Q : Option Value → T → Prop) (st : List Value) : vc xs zH_65 (n + 1) b d 65 141 ml st t Q = vgi ml 8 (fun v => vc xs zH_65 n true d 65 143 ml (.int v :: st) t Q) := by
  rw [vc_q (o := (1, 0, 8, 1, [])) (by decide +kernel)]; rfl
theorem v_65_143 (xs : Option (List Int32)) (n : Nat) (b : Bool) (d : Nat) (ml : List Value) (t : T) (Q : Option Value → T → Prop) (u : Int32) (r : List Value) : vc xs zH_65 (n + 1) b d 65 143 ml (.int u :: r) t Q = (if u < 0 then vc xs zH_65 n true d 65 151 ml r t Q else vc xs zH_65 n true d 65 146 ml r t Q) := by
  rw [vc_q (o := (21, 0, 151, 2, [])) (by decide +kernel)]; rfl
theorem v_65_146 (xs : Option (List Int32)) (n : Nat) (b : Bool) (d : Nat) (ml : List Value) (t : T) (Q : Option Value → T → Prop) (st : List Value) : vc xs zH_65 (n + 1) b d 65 146 ml st t Q = vgi ml 4 (fun v => vc xs zH_65 n true d 65 148 ml (.int v :: st) t Q) := by
  rw [vc_q (o := (1, 0, 4, 1, [])) (by decide +kernel)]; rfl
theorem v_65_148 (xs : Option (List Int32)) (n : Nat) (b : Bool) (d : Nat) (ml : List Value) (t : T) (Q : Option Value → T → Prop) (st : List Value) : vc xs zH_65 (n + 1) b d 65 148 ml st t Q = vc xs zH_65 n true d 65 196 ml st t Q := by
  rw [vc_q (o := (22, 0, 196, 0, [])) (by decide +kernel)]; rfl
theorem v_65_151 (xs : Option (List Int32)) (n : Nat) (b : Bool) (d : Nat) (ml : List Value) (t : T) (Q : Option Value → T → Prop) (st : List Value) : vc xs zH_65 (n + 1) b d 65 151 ml st t Q = vgi ml 6 (fun v => vc xs zH_65 n true d 65 153 ml (.int v :: st) t Q) := by
  rw [vc_q (o := (1, 0, 6, 1, [])) (by decide +kernel)]; rfl
theorem v_65_153 (xs : Option (List Int32)) (n : Nat) (b : Bool) (d : Nat) (ml : List Value) (t : T) (Q : Option Value → T → Prop) (st : List Value) : vc xs zH_65 (n + 1) b d 65 153 ml st t Q = vc xs zH_65 n true d 65 154 ml (.int 3 :: st) t Q := by
  rw [vc_q (o := (0, 3, 0, 0, [])) (by decide +kernel)]; rfl
theorem v_65_154 (xs : Option (List Int32)) (n : Nat) (b : Bool) (d : Nat) (ml : List Value) (t : T) (Q : Option Value → T → Prop) (u v : Int32) (r : List Value) : vc xs zH_65 (n + 1) b d 65 154 ml (.int v :: .int u :: r) t Q = (if u = v then vc xs zH_65 n true d 65 157 ml r t Q else vc xs zH_65 n true d 65 165 ml r t Q) := by
  rw [vc_q (o := (20, 0, 165, 1, [])) (by decide +kernel)]; rfl
theorem v_65_157 (xs : Option (List Int32)) (n : Nat) (b : Bool) (d : Nat) (ml : List Value) (t : T) (Q : Option Value → T → Prop) (st : List Value) : vc xs zH_65 (n + 1) b d 65 157 ml st t Q = vgi ml 4 (fun v => vc xs zH_65 n true d 65 159 ml (.int v :: st) t Q) := by
  rw [vc_q (o := (1, 0, 4, 1, [])) (by decide +kernel)]; rfl
theorem v_65_159 (xs : Option (List Int32)) (n : Nat) (b : Bool) (d : Nat) (ml : List Value) (t : T) (Q : Option Value → T → Prop) (st : List Value) : vc xs zH_65 (n + 1) b d 65 159 ml st t Q = (st.all zc1 = true ∧ vtk 1 st [] (fun as rest => rest.length ≤ 8 ∧ twc d 36 as t (fun r t' => vc xs zH_65 n true d 65 162 ml (r.toList ++ rest) t' Q))) := by
  rw [vc_q (o := (37, 0, 36, 1, [])) (by decide +kernel)]; rfl
theorem v_65_162 (xs : Option (List Int32)) (n : Nat) (b : Bool) (d : Nat) (ml : List Value) (t : T) (Q : Option Value → T → Prop) (st : List Value) : vc xs zH_65 (n + 1) b d 65 162 ml st t Q = vc xs zH_65 n true d 65 196 ml st t Q := by
  rw [vc_q (o := (22, 0, 196, 0, [])) (by decide +kernel)]; rfl
theorem v_65_165 (xs : Option (List Int32)) (n : Nat) (b : Bool) (d : Nat) (ml : List Value) (t : T) (Q : Option Value → T → Prop) (st : List Value) : vc xs zH_65 (n + 1) b d 65 165 ml st t Q = vgi ml 6 (fun v => vc xs zH_65 n true d 65 167 ml (.int v :: st) t Q) := by
  rw [vc_q (o := (1, 0, 6, 1, [])) (by decide +kernel)]; rfl
theorem v_65_167 (xs : Option (List Int32)) (n : Nat) (b : Bool) (d : Nat) (ml : List Value) (t : T) (Q : Option Value → T → Prop) (st : List Value) : vc xs zH_65 (n + 1) b d 65 167 ml st t Q = vc xs zH_65 n true d 65 168 ml (.int 4 :: st) t Q := by
  rw [vc_q (o := (0, 4, 0, 0, [])) (by decide +kernel)]; rfl
theorem v_65_168 (xs : Option (List Int32)) (n : Nat) (b : Bool) (d : Nat) (ml : List Value) (t : T) (Q : Option Value → T → Prop) (u v : Int32) (r : List Value) : vc xs zH_65 (n + 1) b d 65 168 ml (.int v :: .int u :: r) t Q = (if u = v then vc xs zH_65 n true d 65 171 ml r t Q else vc xs zH_65 n true d 65 185 ml r t Q) := by
  rw [vc_q (o := (20, 0, 185, 1, [])) (by decide +kernel)]; rfl
theorem v_65_171 (xs : Option (List Int32)) (n : Nat) (b : Bool) (d : Nat) (ml : List Value) (t : T) (Q : Option Value → T → Prop) (st : List Value) : vc xs zH_65 (n + 1) b d 65 171 ml st t Q = vga ml 0 (fun v => vc xs zH_65 n true d 65 172 ml (.ref v :: st) t Q) := by
  rw [vc_q (o := (2, 0, 0, 0, [])) (by decide +kernel)]; rfl
theorem v_65_172 (xs : Option (List Int32)) (n : Nat) (b : Bool) (d : Nat) (ml : List Value) (t : T) (Q : Option Value → T → Prop) (u : Nat) (r : List Value) : vc xs zH_65 (n + 1) b d 65 172 ml (.ref u :: r) t Q = (vtag u = 12 ∧ vc xs zH_65 n true d 65 175 ml (.ref (tref t u 30) :: r) t Q) := by
  rw [vc_q (o := (25, 0, 12, 30, [])) (by decide +kernel)]; rfl
theorem v_65_175 (xs : Option (List Int32)) (n : Nat) (b : Bool) (d : Nat) (ml : List Value) (t : T) (Q : Option Value → T → Prop) (st : List Value) : vc xs zH_65 (n + 1) b d 65 175 ml st t Q = vgi ml 3 (fun v => vc xs zH_65 n true d 65 176 ml (.int v :: st) t Q) := by
  rw [vc_q (o := (1, 0, 3, 0, [])) (by decide +kernel)]; rfl
theorem v_65_176 (xs : Option (List Int32)) (n : Nat) (b : Bool) (d : Nat) (ml : List Value) (t : T) (Q : Option Value → T → Prop) (v : Int32) (u : Nat) (r : List Value) : vc xs zH_65 (n + 1) b d 65 176 ml (.int v :: .ref u :: r) t Q = (vtag u = 100 ∧ vinb v (vlen u) ∧ vc xs zH_65 n true d 65 177 ml (.int (t.1 u v.toNatClampNeg) :: r) t Q) := by
  rw [vc_q (o := (29, 0, 0, 0, [])) (by decide +kernel)]; rfl
theorem v_65_177 (xs : Option (List Int32)) (n : Nat) (b : Bool) (d : Nat) (ml : List Value) (t : T) (Q : Option Value → T → Prop) (st : List Value) : vc xs zH_65 (n + 1) b d 65 177 ml st t Q = vgi ml 4 (fun v => vc xs zH_65 n true d 65 179 ml (.int v :: st) t Q) := by
  rw [vc_q (o := (1, 0, 4, 1, [])) (by decide +kernel)]; rfl
theorem v_65_179 (xs : Option (List Int32)) (n : Nat) (b : Bool) (d : Nat) (ml : List Value) (t : T) (Q : Option Value → T → Prop) (st : List Value) : vc xs zH_65 (n + 1) b d 65 179 ml st t Q = (st.all zc1 = true ∧ vtk 2 st [] (fun as rest => rest.length ≤ 8 ∧ twc d 34 as t (fun r t' => vc xs zH_65 n true d 65 182 ml (r.toList ++ rest) t' Q))) := by
  rw [vc_q (o := (37, 0, 34, 2, [])) (by decide +kernel)]; rfl
theorem v_65_182 (xs : Option (List Int32)) (n : Nat) (b : Bool) (d : Nat) (ml : List Value) (t : T) (Q : Option Value → T → Prop) (st : List Value) : vc xs zH_65 (n + 1) b d 65 182 ml st t Q = vc xs zH_65 n true d 65 196 ml st t Q := by
  rw [vc_q (o := (22, 0, 196, 0, [])) (by decide +kernel)]; rfl
theorem v_65_185 (xs : Option (List Int32)) (n : Nat) (b : Bool) (d : Nat) (ml : List Value) (t : T) (Q : Option Value → T → Prop) (st : List Value) : vc xs zH_65 (n + 1) b d 65 185 ml st t Q = vga ml 0 (fun v => vc xs zH_65 n true d 65 186 ml (.ref v :: st) t Q) := by
  rw [vc_q (o := (2, 0, 0, 0, [])) (by decide +kernel)]; rfl
theorem v_65_186 (xs : Option (List Int32)) (n : Nat) (b : Bool) (d : Nat) (ml : List Value) (t : T) (Q : Option Value → T → Prop) (u : Nat) (r : List Value) : vc xs zH_65 (n + 1) b d 65 186 ml (.ref u :: r) t Q = (vtag u = 12 ∧ vc xs zH_65 n true d 65 189 ml (.ref (tref t u 30) :: r) t Q) := by
  rw [vc_q (o := (25, 0, 12, 30, [])) (by decide +kernel)]; rfl
theorem v_65_189 (xs : Option (List Int32)) (n : Nat) (b : Bool) (d : Nat) (ml : List Value) (t : T) (Q : Option Value → T → Prop) (st : List Value) : vc xs zH_65 (n + 1) b d 65 189 ml st t Q = vgi ml 3 (fun v => vc xs zH_65 n true d 65 190 ml (.int v :: st) t Q) := by
  rw [vc_q (o := (1, 0, 3, 0, [])) (by decide +kernel)]; rfl
theorem v_65_190 (xs : Option (List Int32)) (n : Nat) (b : Bool) (d : Nat) (ml : List Value) (t : T) (Q : Option Value → T → Prop) (v : Int32) (u : Nat) (r : List Value) : vc xs zH_65 (n + 1) b d 65 190 ml (.int v :: .ref u :: r) t Q = (vtag u = 100 ∧ vinb v (vlen u) ∧ vc xs zH_65 n true d 65 191 ml (.int (t.1 u v.toNatClampNeg) :: r) t Q) := by
  rw [vc_q (o := (29, 0, 0, 0, [])) (by decide +kernel)]; rfl
theorem v_65_191 (xs : Option (List Int32)) (n : Nat) (b : Bool) (d : Nat) (ml : List Value) (t : T) (Q : Option Value → T → Prop) (st : List Value) : vc xs zH_65 (n + 1) b d 65 191 ml st t Q = vgi ml 4 (fun v => vc xs zH_65 n true d 65 193 ml (.int v :: st) t Q) := by
  rw [vc_q (o := (1, 0, 4, 1, [])) (by decide +kernel)]; rfl
theorem v_65_193 (xs : Option (List Int32)) (n : Nat) (b : Bool) (d : Nat) (ml : List Value) (t : T) (Q : Option Value → T → Prop) (st : List Value) : vc xs zH_65 (n + 1) b d 65 193 ml st t Q = (st.all zc1 = true ∧ vtk 2 st [] (fun as rest => rest.length ≤ 8 ∧ twc d 35 as t (fun r t' => vc xs zH_65 n true d 65 196 ml (r.toList ++ rest) t' Q))) := by
  rw [vc_q (o := (37, 0, 35, 2, [])) (by decide +kernel)]; rfl
theorem v_65_196 (xs : Option (List Int32)) (n : Nat) (d : Nat) (ml : List Value) (t : T) (Q : Option Value → T → Prop) (v : Int32) (r : List Value) : vc xs zH_65 (n + 1) false d 65 196 ml (.int v :: r) t Q = vset ml 4 (.int v) (fun l => vc xs zH_65 n true d 65 198 l r t Q) := by
  rw [vc_q (o := (3, 0, 4, 1, [])) (by decide +kernel)]; rfl
theorem h_65_196 (xs : Option (List Int32)) (n d : Nat) (ml st : List Value) (t : T) (Q : Option Value → T → Prop) : vc xs zH_65 (n + 1) true d 65 196 ml st t Q = twp xs d 65 196 ml st t Q := id rfl
theorem v_65_198 (xs : Option (List Int32)) (n : Nat) (b : Bool) (d : Nat) (ml : List Value) (t : T) (Q : Option Value → T → Prop) (st : List Value) : vc xs zH_65 (n + 1) b d 65 198 ml st t Q = vc xs zH_65 n true d 65 305 ml st t Q := by
  rw [vc_q (o := (22, 0, 305, 0, [])) (by decide +kernel)]; rfl
theorem v_65_201 (xs : Option (List Int32)) (n : Nat) (b : Bool) (d : Nat) (ml : List Value) (t : T) (Q : Option Value → T → Prop) (st : List Value) : vc xs zH_65 (n + 1) b d 65 201 ml st t Q = vgi ml 6 (fun v => vc xs zH_65 n true d 65 203 ml (.int v :: st) t Q) := by
  rw [vc_q (o := (1, 0, 6, 1, [])) (by decide +kernel)]; rfl
theorem v_65_203 (xs : Option (List Int32)) (n : Nat) (b : Bool) (d : Nat) (ml : List Value) (t : T) (Q : Option Value → T → Prop) (st : List Value) : vc xs zH_65 (n + 1) b d 65 203 ml st t Q = vc xs zH_65 n true d 65 205 ml (.int 8 :: st) t Q := by
  rw [vc_q (o := (0, 8, 1, 0, [])) (by decide +kernel)]; rfl
theorem v_65_205 (xs : Option (List Int32)) (n : Nat) (b : Bool) (d : Nat) (ml : List Value) (t : T) (Q : Option Value → T → Prop) (u v : Int32) (r : List Value) : vc xs zH_65 (n + 1) b d 65 205 ml (.int v :: .int u :: r) t Q = (if u < v then vc xs zH_65 n true d 65 208 ml r t Q else vc xs zH_65 n true d 65 243 ml r t Q) := by
  rw [vc_q (o := (20, 0, 243, 3, [])) (by decide +kernel)]; rfl
theorem v_65_208 (xs : Option (List Int32)) (n : Nat) (b : Bool) (d : Nat) (ml : List Value) (t : T) (Q : Option Value → T → Prop) (st : List Value) : vc xs zH_65 (n + 1) b d 65 208 ml st t Q = vga ml 0 (fun v => vc xs zH_65 n true d 65 209 ml (.ref v :: st) t Q) := by
  rw [vc_q (o := (2, 0, 0, 0, [])) (by decide +kernel)]; rfl
theorem v_65_209 (xs : Option (List Int32)) (n : Nat) (b : Bool) (d : Nat) (ml : List Value) (t : T) (Q : Option Value → T → Prop) (st : List Value) : vc xs zH_65 (n + 1) b d 65 209 ml st t Q = vgi ml 1 (fun v => vc xs zH_65 n true d 65 210 ml (.int v :: st) t Q) := by
  rw [vc_q (o := (1, 0, 1, 0, [])) (by decide +kernel)]; rfl
theorem v_65_210 (xs : Option (List Int32)) (n : Nat) (b : Bool) (d : Nat) (ml : List Value) (t : T) (Q : Option Value → T → Prop) (st : List Value) : vc xs zH_65 (n + 1) b d 65 210 ml st t Q = vgi ml 3 (fun v => vc xs zH_65 n true d 65 211 ml (.int v :: st) t Q) := by
  rw [vc_q (o := (1, 0, 3, 0, [])) (by decide +kernel)]; rfl
theorem v_65_211 (xs : Option (List Int32)) (n : Nat) (b : Bool) (d : Nat) (ml : List Value) (t : T) (Q : Option Value → T → Prop) (st : List Value) : vc xs zH_65 (n + 1) b d 65 211 ml st t Q = vgi ml 5 (fun v => vc xs zH_65 n true d 65 213 ml (.int v :: st) t Q) := by
  rw [vc_q (o := (1, 0, 5, 1, [])) (by decide +kernel)]; rfl
theorem v_65_213 (xs : Option (List Int32)) (n : Nat) (b : Bool) (d : Nat) (ml : List Value) (t : T) (Q : Option Value → T → Prop) (st : List Value) : vc xs zH_65 (n + 1) b d 65 213 ml st t Q = vgi ml 7 (fun v => vc xs zH_65 n true d 65 215 ml (.int v :: st) t Q) := by
  rw [vc_q (o := (1, 0, 7, 1, [])) (by decide +kernel)]; rfl
theorem v_65_215 (xs : Option (List Int32)) (n : Nat) (b : Bool) (d : Nat) (ml : List Value) (t : T) (Q : Option Value → T → Prop) (st : List Value) : vc xs zH_65 (n + 1) b d 65 215 ml st t Q = vgi ml 4 (fun v => vc xs zH_65 n true d 65 217 ml (.int v :: st) t Q) := by
  rw [vc_q (o := (1, 0, 4, 1, [])) (by decide +kernel)]; rfl
theorem v_65_217 (xs : Option (List Int32)) (n : Nat) (b : Bool) (d : Nat) (ml : List Value) (t : T) (Q : Option Value → T → Prop) (st : List Value) : vc xs zH_65 (n + 1) b d 65 217 ml st t Q = (st.all zc1 = true ∧ vtk 6 st [] (fun as rest => rest.length ≤ 8 ∧ vrc as 12 (twc d 66 as t (fun r t' => vc xs zH_65 n true d 65 220 ml (r.toList ++ rest) t' Q)))) := by
  rw [vc_q (o := (36, 0, 66, 5, [(0, 12)])) (by decide +kernel)]; rfl
theorem v_65_220 (xs : Option (List Int32)) (n : Nat) (b : Bool) (d : Nat) (ml : List Value) (t : T) (Q : Option Value → T → Prop) (v : Int32) (r : List Value) : vc xs zH_65 (n + 1) b d 65 220 ml (.int v :: r) t Q = vset ml 8 (.int v) (fun l => vc xs zH_65 n true d 65 222 l r t Q) := by
  rw [vc_q (o := (3, 0, 8, 1, [])) (by decide +kernel)]; rfl
theorem v_65_222 (xs : Option (List Int32)) (n : Nat) (b : Bool) (d : Nat) (ml : List Value) (t : T) (Q : Option Value → T → Prop) (st : List Value) : vc xs zH_65 (n + 1) b d 65 222 ml st t Q = vgi ml 8 (fun v => vc xs zH_65 n true d 65 224 ml (.int v :: st) t Q) := by
  rw [vc_q (o := (1, 0, 8, 1, [])) (by decide +kernel)]; rfl
theorem v_65_224 (xs : Option (List Int32)) (n : Nat) (b : Bool) (d : Nat) (ml : List Value) (t : T) (Q : Option Value → T → Prop) (u : Int32) (r : List Value) : vc xs zH_65 (n + 1) b d 65 224 ml (.int u :: r) t Q = (if u < 0 then vc xs zH_65 n true d 65 232 ml r t Q else vc xs zH_65 n true d 65 227 ml r t Q) := by
  rw [vc_q (o := (21, 0, 232, 2, [])) (by decide +kernel)]; rfl
theorem v_65_227 (xs : Option (List Int32)) (n : Nat) (b : Bool) (d : Nat) (ml : List Value) (t : T) (Q : Option Value → T → Prop) (st : List Value) : vc xs zH_65 (n + 1) b d 65 227 ml st t Q = vgi ml 4 (fun v => vc xs zH_65 n true d 65 229 ml (.int v :: st) t Q) := by
  rw [vc_q (o := (1, 0, 4, 1, [])) (by decide +kernel)]; rfl
theorem v_65_229 (xs : Option (List Int32)) (n : Nat) (b : Bool) (d : Nat) (ml : List Value) (t : T) (Q : Option Value → T → Prop) (st : List Value) : vc xs zH_65 (n + 1) b d 65 229 ml st t Q = vc xs zH_65 n true d 65 238 ml st t Q := by
  rw [vc_q (o := (22, 0, 238, 0, [])) (by decide +kernel)]; rfl
theorem v_65_232 (xs : Option (List Int32)) (n : Nat) (b : Bool) (d : Nat) (ml : List Value) (t : T) (Q : Option Value → T → Prop) (st : List Value) : vc xs zH_65 (n + 1) b d 65 232 ml st t Q = vga ml 0 (fun v => vc xs zH_65 n true d 65 233 ml (.ref v :: st) t Q) := by
  rw [vc_q (o := (2, 0, 0, 0, [])) (by decide +kernel)]; rfl
theorem v_65_233 (xs : Option (List Int32)) (n : Nat) (b : Bool) (d : Nat) (ml : List Value) (t : T) (Q : Option Value → T → Prop) (u : Nat) (r : List Value) : vc xs zH_65 (n + 1) b d 65 233 ml (.ref u :: r) t Q = (vtag u = 12 ∧ vc xs zH_65 n true d 65 236 ml (.ref (tref t u 30) :: r) t Q) := by
  rw [vc_q (o := (25, 0, 12, 30, [])) (by decide +kernel)]; rfl
theorem v_65_236 (xs : Option (List Int32)) (n : Nat) (b : Bool) (d : Nat) (ml : List Value) (t : T) (Q : Option Value → T → Prop) (st : List Value) : vc xs zH_65 (n + 1) b d 65 236 ml st t Q = vgi ml 3 (fun v => vc xs zH_65 n true d 65 237 ml (.int v :: st) t Q) := by
  rw [vc_q (o := (1, 0, 3, 0, [])) (by decide +kernel)]; rfl
theorem v_65_237 (xs : Option (List Int32)) (n : Nat) (b : Bool) (d : Nat) (ml : List Value) (t : T) (Q : Option Value → T → Prop) (v : Int32) (u : Nat) (r : List Value) : vc xs zH_65 (n + 1) b d 65 237 ml (.int v :: .ref u :: r) t Q = (vtag u = 100 ∧ vinb v (vlen u) ∧ vc xs zH_65 n true d 65 238 ml (.int (t.1 u v.toNatClampNeg) :: r) t Q) := by
  rw [vc_q (o := (29, 0, 0, 0, [])) (by decide +kernel)]; rfl
theorem v_65_238 (xs : Option (List Int32)) (n : Nat) (d : Nat) (ml : List Value) (t : T) (Q : Option Value → T → Prop) (v : Int32) (r : List Value) : vc xs zH_65 (n + 1) false d 65 238 ml (.int v :: r) t Q = vset ml 4 (.int v) (fun l => vc xs zH_65 n true d 65 240 l r t Q) := by
  rw [vc_q (o := (3, 0, 4, 1, [])) (by decide +kernel)]; rfl
theorem h_65_238 (xs : Option (List Int32)) (n d : Nat) (ml st : List Value) (t : T) (Q : Option Value → T → Prop) : vc xs zH_65 (n + 1) true d 65 238 ml st t Q = twp xs d 65 238 ml st t Q := id rfl
theorem v_65_240 (xs : Option (List Int32)) (n : Nat) (b : Bool) (d : Nat) (ml : List Value) (t : T) (Q : Option Value → T → Prop) (st : List Value) : vc xs zH_65 (n + 1) b d 65 240 ml st t Q = vc xs zH_65 n true d 65 305 ml st t Q := by
  rw [vc_q (o := (22, 0, 305, 0, [])) (by decide +kernel)]; rfl
theorem v_65_243 (xs : Option (List Int32)) (n : Nat) (b : Bool) (d : Nat) (ml : List Value) (t : T) (Q : Option Value → T → Prop) (st : List Value) : vc xs zH_65 (n + 1) b d 65 243 ml st t Q = vga ml 0 (fun v => vc xs zH_65 n true d 65 244 ml (.ref v :: st) t Q) := by
  rw [vc_q (o := (2, 0, 0, 0, [])) (by decide +kernel)]; rfl
theorem v_65_244 (xs : Option (List Int32)) (n : Nat) (b : Bool) (d : Nat) (ml : List Value) (t : T) (Q : Option Value → T → Prop) (st : List Value) : vc xs zH_65 (n + 1) b d 65 244 ml st t Q = vgi ml 1 (fun v => vc xs zH_65 n true d 65 245 ml (.int v :: st) t Q) := by
  rw [vc_q (o := (1, 0, 1, 0, [])) (by decide +kernel)]; rfl
theorem v_65_245 (xs : Option (List Int32)) (n : Nat) (b : Bool) (d : Nat) (ml : List Value) (t : T) (Q : Option Value → T → Prop) (st : List Value) : vc xs zH_65 (n + 1) b d 65 245 ml st t Q = vgi ml 3 (fun v => vc xs zH_65 n true d 65 246 ml (.int v :: st) t Q) := by
  rw [vc_q (o := (1, 0, 3, 0, [])) (by decide +kernel)]; rfl
theorem v_65_246 (xs : Option (List Int32)) (n : Nat) (b : Bool) (d : Nat) (ml : List Value) (t : T) (Q : Option Value → T → Prop) (st : List Value) : vc xs zH_65 (n + 1) b d 65 246 ml st t Q = vgi ml 5 (fun v => vc xs zH_65 n true d 65 248 ml (.int v :: st) t Q) := by
  rw [vc_q (o := (1, 0, 5, 1, [])) (by decide +kernel)]; rfl
theorem v_65_248 (xs : Option (List Int32)) (n : Nat) (b : Bool) (d : Nat) (ml : List Value) (t : T) (Q : Option Value → T → Prop) (st : List Value) : vc xs zH_65 (n + 1) b d 65 248 ml st t Q = vgi ml 7 (fun v => vc xs zH_65 n true d 65 250 ml (.int v :: st) t Q) := by
  rw [vc_q (o := (1, 0, 7, 1, [])) (by decide +kernel)]; rfl
theorem v_65_250 (xs : Option (List Int32)) (n : Nat) (b : Bool) (d : Nat) (ml : List Value) (t : T) (Q : Option Value → T → Prop) (st : List Value) : vc xs zH_65 (n + 1) b d 65 250 ml st t Q = vgi ml 4 (fun v => vc xs zH_65 n true d 65 252 ml (.int v :: st) t Q) := by
  rw [vc_q (o := (1, 0, 4, 1, [])) (by decide +kernel)]; rfl
theorem v_65_252 (xs : Option (List Int32)) (n : Nat) (b : Bool) (d : Nat) (ml : List Value) (t : T) (Q : Option Value → T → Prop) (st : List Value) : vc xs zH_65 (n + 1) b d 65 252 ml st t Q = (st.all zc1 = true ∧ vtk 6 st [] (fun as rest => rest.length ≤ 8 ∧ vrc as 12 (twc d 67 as t (fun r t' => vc xs zH_65 n true d 65 255 ml (r.toList ++ rest) t' Q)))) := by
  rw [vc_q (o := (36, 0, 67, 5, [(0, 12)])) (by decide +kernel)]; rfl
theorem v_65_255 (xs : Option (List Int32)) (n : Nat) (b : Bool) (d : Nat) (ml : List Value) (t : T) (Q : Option Value → T → Prop) (v : Int32) (r : List Value) : vc xs zH_65 (n + 1) b d 65 255 ml (.int v :: r) t Q = vset ml 8 (.int v) (fun l => vc xs zH_65 n true d 65 257 l r t Q) := by
  rw [vc_q (o := (3, 0, 8, 1, [])) (by decide +kernel)]; rfl
theorem v_65_257 (xs : Option (List Int32)) (n : Nat) (b : Bool) (d : Nat) (ml : List Value) (t : T) (Q : Option Value → T → Prop) (st : List Value) : vc xs zH_65 (n + 1) b d 65 257 ml st t Q = vgi ml 8 (fun v => vc xs zH_65 n true d 65 259 ml (.int v :: st) t Q) := by
  rw [vc_q (o := (1, 0, 8, 1, [])) (by decide +kernel)]; rfl
theorem v_65_259 (xs : Option (List Int32)) (n : Nat) (b : Bool) (d : Nat) (ml : List Value) (t : T) (Q : Option Value → T → Prop) (u : Int32) (r : List Value) : vc xs zH_65 (n + 1) b d 65 259 ml (.int u :: r) t Q = (if u < 0 then vc xs zH_65 n true d 65 267 ml r t Q else vc xs zH_65 n true d 65 262 ml r t Q) := by
  rw [vc_q (o := (21, 0, 267, 2, [])) (by decide +kernel)]; rfl
theorem v_65_262 (xs : Option (List Int32)) (n : Nat) (b : Bool) (d : Nat) (ml : List Value) (t : T) (Q : Option Value → T → Prop) (st : List Value) : vc xs zH_65 (n + 1) b d 65 262 ml st t Q = vgi ml 4 (fun v => vc xs zH_65 n true d 65 264 ml (.int v :: st) t Q) := by
  rw [vc_q (o := (1, 0, 4, 1, [])) (by decide +kernel)]; rfl
theorem v_65_264 (xs : Option (List Int32)) (n : Nat) (b : Bool) (d : Nat) (ml : List Value) (t : T) (Q : Option Value → T → Prop) (st : List Value) : vc xs zH_65 (n + 1) b d 65 264 ml st t Q = vc xs zH_65 n true d 65 303 ml st t Q := by
  rw [vc_q (o := (22, 0, 303, 0, [])) (by decide +kernel)]; rfl
theorem v_65_267 (xs : Option (List Int32)) (n : Nat) (b : Bool) (d : Nat) (ml : List Value) (t : T) (Q : Option Value → T → Prop) (st : List Value) : vc xs zH_65 (n + 1) b d 65 267 ml st t Q = vga ml 0 (fun v => vc xs zH_65 n true d 65 268 ml (.ref v :: st) t Q) := by
  rw [vc_q (o := (2, 0, 0, 0, [])) (by decide +kernel)]; rfl
theorem v_65_268 (xs : Option (List Int32)) (n : Nat) (b : Bool) (d : Nat) (ml : List Value) (t : T) (Q : Option Value → T → Prop) (u : Nat) (r : List Value) : vc xs zH_65 (n + 1) b d 65 268 ml (.ref u :: r) t Q = (vtag u = 12 ∧ vc xs zH_65 n true d 65 271 ml (.ref (tref t u 34) :: r) t Q) := by
  rw [vc_q (o := (25, 0, 12, 34, [])) (by decide +kernel)]; rfl
theorem v_65_271 (xs : Option (List Int32)) (n : Nat) (b : Bool) (d : Nat) (ml : List Value) (t : T) (Q : Option Value → T → Prop) (st : List Value) : vc xs zH_65 (n + 1) b d 65 271 ml st t Q = vga ml 0 (fun v => vc xs zH_65 n true d 65 272 ml (.ref v :: st) t Q) := by
  rw [vc_q (o := (2, 0, 0, 0, [])) (by decide +kernel)]; rfl
theorem v_65_272 (xs : Option (List Int32)) (n : Nat) (b : Bool) (d : Nat) (ml : List Value) (t : T) (Q : Option Value → T → Prop) (u : Nat) (r : List Value) : vc xs zH_65 (n + 1) b d 65 272 ml (.ref u :: r) t Q = (vtag u = 12 ∧ vc xs zH_65 n true d 65 275 ml (.ref (tref t u 27) :: r) t Q) := by
  rw [vc_q (o := (25, 0, 12, 27, [])) (by decide +kernel)]; rfl
theorem v_65_275 (xs : Option (List Int32)) (n : Nat) (b : Bool) (d : Nat) (ml : List Value) (t : T) (Q : Option Value → T → Prop) (st : List Value) : vc xs zH_65 (n + 1) b d 65 275 ml st t Q = vga ml 0 (fun v => vc xs zH_65 n true d 65 276 ml (.ref v :: st) t Q) := by
  rw [vc_q (o := (2, 0, 0, 0, [])) (by decide +kernel)]; rfl
theorem v_65_276 (xs : Option (List Int32)) (n : Nat) (b : Bool) (d : Nat) (ml : List Value) (t : T) (Q : Option Value → T → Prop) (u : Nat) (r : List Value) : vc xs zH_65 (n + 1) b d 65 276 ml (.ref u :: r) t Q = (vtag u = 12 ∧ vc xs zH_65 n true d 65 279 ml (.ref (tref t u 3) :: r) t Q) := by
  rw [vc_q (o := (25, 0, 12, 3, [])) (by decide +kernel)]; rfl
theorem v_65_279 (xs : Option (List Int32)) (n : Nat) (b : Bool) (d : Nat) (ml : List Value) (t : T) (Q : Option Value → T → Prop) (st : List Value) : vc xs zH_65 (n + 1) b d 65 279 ml st t Q = vgi ml 5 (fun v => vc xs zH_65 n true d 65 281 ml (.int v :: st) t Q) := by
  rw [vc_q (o := (1, 0, 5, 1, [])) (by decide +kernel)]; rfl
theorem v_65_281 (xs : Option (List Int32)) (n : Nat) (b : Bool) (d : Nat) (ml : List Value) (t : T) (Q : Option Value → T → Prop) (v : Int32) (u : Nat) (r : List Value) : vc xs zH_65 (n + 1) b d 65 281 ml (.int v :: .ref u :: r) t Q = (vtag u = 100 ∧ vinb v (vlen u) ∧ vc xs zH_65 n true d 65 282 ml (.int (t.1 u v.toNatClampNeg) :: r) t Q) := by
  rw [vc_q (o := (29, 0, 0, 0, [])) (by decide +kernel)]; rfl
theorem v_65_282 (xs : Option (List Int32)) (n : Nat) (b : Bool) (d : Nat) (ml : List Value) (t : T) (Q : Option Value → T → Prop) (v : Int32) (u : Nat) (r : List Value) : vc xs zH_65 (n + 1) b d 65 282 ml (.int v :: .ref u :: r) t Q = (vtag u = 100 ∧ vinb v (vlen u) ∧ vc xs zH_65 n true d 65 283 ml (.int (t.1 u v.toNatClampNeg) :: r) t Q) := by
  rw [vc_q (o := (29, 0, 0, 0, [])) (by decide +kernel)]; rfl
theorem v_65_283 (xs : Option (List Int32)) (n : Nat) (b : Bool) (d : Nat) (ml : List Value) (t : T) (Q : Option Value → T → Prop) (st : List Value) : vc xs zH_65 (n + 1) b d 65 283 ml st t Q = vga ml 0 (fun v => vc xs zH_65 n true d 65 284 ml (.ref v :: st) t Q) := by
  rw [vc_q (o := (2, 0, 0, 0, [])) (by decide +kernel)]; rfl
theorem v_65_284 (xs : Option (List Int32)) (n : Nat) (b : Bool) (d : Nat) (ml : List Value) (t : T) (Q : Option Value → T → Prop) (st : List Value) : vc xs zH_65 (n + 1) b d 65 284 ml st t Q = vgi ml 1 (fun v => vc xs zH_65 n true d 65 285 ml (.int v :: st) t Q) := by
  rw [vc_q (o := (1, 0, 1, 0, [])) (by decide +kernel)]; rfl
theorem v_65_285 (xs : Option (List Int32)) (n : Nat) (b : Bool) (d : Nat) (ml : List Value) (t : T) (Q : Option Value → T → Prop) (st : List Value) : vc xs zH_65 (n + 1) b d 65 285 ml st t Q = (st.all zc1 = true ∧ vtk 2 st [] (fun as rest => rest.length ≤ 8 ∧ vrc as 12 (twc d 40 as t (fun r t' => vc xs zH_65 n true d 65 288 ml (r.toList ++ rest) t' Q)))) := by
  rw [vc_q (o := (36, 0, 40, 1, [(0, 12)])) (by decide +kernel)]; rfl
theorem v_65_288 (xs : Option (List Int32)) (n : Nat) (b : Bool) (d : Nat) (ml : List Value) (t : T) (Q : Option Value → T → Prop) (u v : Int32) (r : List Value) : vc xs zH_65 (n + 1) b d 65 288 ml (.int v :: .int u :: r) t Q = vc xs zH_65 n true d 65 289 ml (.int (u * v) :: r) t Q := by
  rw [vc_q (o := (8, 0, 0, 0, [])) (by decide +kernel)]; rfl
theorem v_65_289 (xs : Option (List Int32)) (n : Nat) (b : Bool) (d : Nat) (ml : List Value) (t : T) (Q : Option Value → T → Prop) (st : List Value) : vc xs zH_65 (n + 1) b d 65 289 ml st t Q = vga ml 0 (fun v => vc xs zH_65 n true d 65 290 ml (.ref v :: st) t Q) := by
  rw [vc_q (o := (2, 0, 0, 0, [])) (by decide +kernel)]; rfl
theorem v_65_290 (xs : Option (List Int32)) (n : Nat) (b : Bool) (d : Nat) (ml : List Value) (t : T) (Q : Option Value → T → Prop) (u : Nat) (r : List Value) : vc xs zH_65 (n + 1) b d 65 290 ml (.ref u :: r) t Q = (vtag u = 12 ∧ vc xs zH_65 n true d 65 293 ml (.ref (tref t u 27) :: r) t Q) := by
  rw [vc_q (o := (25, 0, 12, 27, [])) (by decide +kernel)]; rfl
theorem v_65_293 (xs : Option (List Int32)) (n : Nat) (b : Bool) (d : Nat) (ml : List Value) (t : T) (Q : Option Value → T → Prop) (st : List Value) : vc xs zH_65 (n + 1) b d 65 293 ml st t Q = vga ml 0 (fun v => vc xs zH_65 n true d 65 294 ml (.ref v :: st) t Q) := by
  rw [vc_q (o := (2, 0, 0, 0, [])) (by decide +kernel)]; rfl
theorem v_65_294 (xs : Option (List Int32)) (n : Nat) (b : Bool) (d : Nat) (ml : List Value) (t : T) (Q : Option Value → T → Prop) (u : Nat) (r : List Value) : vc xs zH_65 (n + 1) b d 65 294 ml (.ref u :: r) t Q = (vtag u = 12 ∧ vc xs zH_65 n true d 65 297 ml (.ref (tref t u 4) :: r) t Q) := by
  rw [vc_q (o := (25, 0, 12, 4, [])) (by decide +kernel)]; rfl
theorem v_65_297 (xs : Option (List Int32)) (n : Nat) (b : Bool) (d : Nat) (ml : List Value) (t : T) (Q : Option Value → T → Prop) (st : List Value) : vc xs zH_65 (n + 1) b d 65 297 ml st t Q = vgi ml 5 (fun v => vc xs zH_65 n true d 65 299 ml (.int v :: st) t Q) := by
  rw [vc_q (o := (1, 0, 5, 1, [])) (by decide +kernel)]; rfl
theorem v_65_299 (xs : Option (List Int32)) (n : Nat) (b : Bool) (d : Nat) (ml : List Value) (t : T) (Q : Option Value → T → Prop) (v : Int32) (u : Nat) (r : List Value) : vc xs zH_65 (n + 1) b d 65 299 ml (.int v :: .ref u :: r) t Q = (vtag u = 100 ∧ vinb v (vlen u) ∧ vc xs zH_65 n true d 65 300 ml (.int (t.1 u v.toNatClampNeg) :: r) t Q) := by
  rw [vc_q (o := (29, 0, 0, 0, [])) (by decide +kernel)]; rfl
theorem v_65_300 (xs : Option (List Int32)) (n : Nat) (b : Bool) (d : Nat) (ml : List Value) (t : T) (Q : Option Value → T → Prop) (v : Int32) (u : Nat) (r : List Value) : vc xs zH_65 (n + 1) b d 65 300 ml (.int v :: .ref u :: r) t Q = (vtag u = 100 ∧ vinb v (vlen u) ∧ vc xs zH_65 n true d 65 301 ml (.int (t.1 u v.toNatClampNeg) :: r) t Q) := by
  rw [vc_q (o := (29, 0, 0, 0, [])) (by decide +kernel)]; rfl
theorem v_65_301 (xs : Option (List Int32)) (n : Nat) (b : Bool) (d : Nat) (ml : List Value) (t : T) (Q : Option Value → T → Prop) (u v : Int32) (r : List Value) : vc xs zH_65 (n + 1) b d 65 301 ml (.int v :: .int u :: r) t Q = vc xs zH_65 n true d 65 302 ml (.int (u + v) :: r) t Q := by
  rw [vc_q (o := (6, 0, 0, 0, [])) (by decide +kernel)]; rfl
theorem v_65_302 (xs : Option (List Int32)) (n : Nat) (b : Bool) (d : Nat) (ml : List Value) (t : T) (Q : Option Value → T → Prop) (v : Int32) (u : Nat) (r : List Value) : vc xs zH_65 (n + 1) b d 65 302 ml (.int v :: .ref u :: r) t Q = (vtag u = 100 ∧ vinb v (vlen u) ∧ vc xs zH_65 n true d 65 303 ml (.int (t.1 u v.toNatClampNeg) :: r) t Q) := by
  rw [vc_q (o := (29, 0, 0, 0, [])) (by decide +kernel)]; rfl
theorem v_65_303 (xs : Option (List Int32)) (n : Nat) (d : Nat) (ml : List Value) (t : T) (Q : Option Value → T → Prop) (v : Int32) (r : List Value) : vc xs zH_65 (n + 1) false d 65 303 ml (.int v :: r) t Q = vset ml 4 (.int v) (fun l => vc xs zH_65 n true d 65 305 l r t Q) := by
  rw [vc_q (o := (3, 0, 4, 1, [])) (by decide +kernel)]; rfl
theorem h_65_303 (xs : Option (List Int32)) (n d : Nat) (ml st : List Value) (t : T) (Q : Option Value → T → Prop) : vc xs zH_65 (n + 1) true d 65 303 ml st t Q = twp xs d 65 303 ml st t Q := id rfl
theorem v_65_305 (xs : Option (List Int32)) (n : Nat) (d : Nat) (ml : List Value) (t : T) (Q : Option Value → T → Prop) (st : List Value) : vc xs zH_65 (n + 1) false d 65 305 ml st t Q = vgi ml 8 (fun v => vc xs zH_65 n true d 65 307 ml (.int v :: st) t Q) := by
  rw [vc_q (o := (1, 0, 8, 1, [])) (by decide +kernel)]; rfl
theorem h_65_305 (xs : Option (List Int32)) (n d : Nat) (ml st : List Value) (t : T) (Q : Option Value → T → Prop) : vc xs zH_65 (n + 1) true d 65 305 ml st t Q = twp xs d 65 305 ml st t Q := id rfl
theorem v_65_307 (xs : Option (List Int32)) (n : Nat) (b : Bool) (d : Nat) (ml : List Value) (t : T) (Q : Option Value → T → Prop) (u : Int32) (r : List Value) : vc xs zH_65 (n + 1) b d 65 307 ml (.int u :: r) t Q = (if u < 0 then vc xs zH_65 n true d 65 323 ml r t Q else vc xs zH_65 n true d 65 310 ml r t Q) := by
  rw [vc_q (o := (21, 0, 323, 2, [])) (by decide +kernel)]; rfl
theorem v_65_310 (xs : Option (List Int32)) (n : Nat) (b : Bool) (d : Nat) (ml : List Value) (t : T) (Q : Option Value → T → Prop) (st : List Value) : vc xs zH_65 (n + 1) b d 65 310 ml st t Q = vgi ml 3 (fun v => vset ml 3 (.int (v + 1)) (fun l => vc xs zH_65 n true d 65 313 l st t Q)) := by
  rw [vc_q (o := (5, 1, 3, 0, [])) (by decide +kernel)]; rfl
theorem v_65_313 (xs : Option (List Int32)) (n : Nat) (b : Bool) (d : Nat) (ml : List Value) (t : T) (Q : Option Value → T → Prop) (st : List Value) : vc xs zH_65 (n + 1) b d 65 313 ml st t Q = vga ml 0 (fun v => vc xs zH_65 n true d 65 314 ml (.ref v :: st) t Q) := by
  rw [vc_q (o := (2, 0, 0, 0, [])) (by decide +kernel)]; rfl
theorem v_65_314 (xs : Option (List Int32)) (n : Nat) (b : Bool) (d : Nat) (ml : List Value) (t : T) (Q : Option Value → T → Prop) (st : List Value) : vc xs zH_65 (n + 1) b d 65 314 ml st t Q = vgi ml 3 (fun v => vc xs zH_65 n true d 65 315 ml (.int v :: st) t Q) := by
  rw [vc_q (o := (1, 0, 3, 0, [])) (by decide +kernel)]; rfl
theorem v_65_315 (xs : Option (List Int32)) (n : Nat) (b : Bool) (d : Nat) (ml : List Value) (t : T) (Q : Option Value → T → Prop) (st : List Value) : vc xs zH_65 (n + 1) b d 65 315 ml st t Q = vgi ml 8 (fun v => vc xs zH_65 n true d 65 317 ml (.int v :: st) t Q) := by
  rw [vc_q (o := (1, 0, 8, 1, [])) (by decide +kernel)]; rfl
theorem v_65_317 (xs : Option (List Int32)) (n : Nat) (b : Bool) (d : Nat) (ml : List Value) (t : T) (Q : Option Value → T → Prop) (st : List Value) : vc xs zH_65 (n + 1) b d 65 317 ml st t Q = (st.all zc1 = true ∧ vtk 3 st [] (fun as rest => rest.length ≤ 8 ∧ vrc as 12 (twc d 64 as t (fun r t' => vc xs zH_65 n true d 65 320 ml (r.toList ++ rest) t' Q)))) := by
  rw [vc_q (o := (36, 0, 64, 2, [(0, 12)])) (by decide +kernel)]; rfl
theorem v_65_320 (xs : Option (List Int32)) (n : Nat) (b : Bool) (d : Nat) (ml : List Value) (t : T) (Q : Option Value → T → Prop) (st : List Value) : vc xs zH_65 (n + 1) b d 65 320 ml st t Q = vc xs zH_65 n true d 65 326 ml st t Q := by
  rw [vc_q (o := (22, 0, 326, 0, [])) (by decide +kernel)]; rfl
theorem v_65_323 (xs : Option (List Int32)) (n : Nat) (b : Bool) (d : Nat) (ml : List Value) (t : T) (Q : Option Value → T → Prop) (st : List Value) : vc xs zH_65 (n + 1) b d 65 323 ml st t Q = vgi ml 3 (fun v => vset ml 3 (.int (v + (-1))) (fun l => vc xs zH_65 n true d 65 326 l st t Q)) := by
  rw [vc_q (o := (5, (-1), 3, 0, [])) (by decide +kernel)]; rfl
theorem v_65_326 (xs : Option (List Int32)) (n : Nat) (b : Bool) (d : Nat) (ml : List Value) (t : T) (Q : Option Value → T → Prop) (st : List Value) : vc xs zH_65 (n + 1) b d 65 326 ml st t Q = vc xs zH_65 n true d 65 11 ml st t Q := by
  rw [vc_q (o := (22, 0, 11, 0, [])) (by decide +kernel)]; rfl
theorem v_65_329 (xs : Option (List Int32)) (n : Nat) (b : Bool) (d : Nat) (ml : List Value) (t : T) (Q : Option Value → T → Prop) (st : List Value) : vc xs zH_65 (n + 1) b d 65 329 ml st t Q = vgi ml 4 (fun v => vc xs zH_65 n true d 65 331 ml (.int v :: st) t Q) := by
  rw [vc_q (o := (1, 0, 4, 1, [])) (by decide +kernel)]; rfl
theorem v_65_331 (xs : Option (List Int32)) (n : Nat) (b : Bool) (d : Nat) (ml : List Value) (t : T) (Q : Option Value → T → Prop) (v : Int32) : vc xs zH_65 (n + 1) b d 65 331 ml [.int v] t Q = Q (some (.int v)) t := by
  rw [vc_q (o := (40, 0, 0, 0, [])) (by decide +kernel)]; rfl
def zH_66 : List Nat := [93]
theorem v_66_0 (xs : Option (List Int32)) (n : Nat) (b : Bool) (d : Nat) (ml : List Value) (t : T) (Q : Option Value → T → Prop) (st : List Value) : vc xs zH_66 (n + 1) b d 66 0 ml st t Q = vga ml 0 (fun v => vc xs zH_66 n true d 66 1 ml (.ref v :: st) t Q) := by
  rw [vc_q (o := (2, 0, 0, 0, [])) (by decide +kernel)]; rfl
theorem v_66_1 (xs : Option (List Int32)) (n : Nat) (b : Bool) (d : Nat) (ml : List Value) (t : T) (Q : Option Value → T → Prop) (u : Nat) (r : List Value) : vc xs zH_66 (n + 1) b d 66 1 ml (.ref u :: r) t Q = (vtag u = 12 ∧ vc xs zH_66 n true d 66 4 ml (.ref (tref t u 3) :: r) t Q) := by
  rw [vc_q (o := (25, 0, 12, 3, [])) (by decide +kernel)]; rfl
theorem v_66_4 (xs : Option (List Int32)) (n : Nat) (b : Bool) (d : Nat) (ml : List Value) (t : T) (Q : Option Value → T → Prop) (st : List Value) : vc xs zH_66 (n + 1) b d 66 4 ml st t Q = vgi ml 3 (fun v => vc xs zH_66 n true d 66 5 ml (.int v :: st) t Q) := by
  rw [vc_q (o := (1, 0, 3, 0, [])) (by decide +kernel)]; rfl
theorem v_66_5 (xs : Option (List Int32)) (n : Nat) (b : Bool) (d : Nat) (ml : List Value) (t : T) (Q : Option Value → T → Prop) (v : Int32) (u : Nat) (r : List Value) : vc xs zH_66 (n + 1) b d 66 5 ml (.int v :: .ref u :: r) t Q = (vtag u = 100 ∧ vinb v (vlen u) ∧ vc xs zH_66 n true d 66 6 ml (.int (t.1 u v.toNatClampNeg) :: r) t Q) := by
  rw [vc_q (o := (29, 0, 0, 0, [])) (by decide +kernel)]; rfl
theorem v_66_6 (xs : Option (List Int32)) (n : Nat) (b : Bool) (d : Nat) (ml : List Value) (t : T) (Q : Option Value → T → Prop) (v : Int32) (r : List Value) : vc xs zH_66 (n + 1) b d 66 6 ml (.int v :: r) t Q = vset ml 6 (.int v) (fun l => vc xs zH_66 n true d 66 8 l r t Q) := by
  rw [vc_q (o := (3, 0, 6, 1, [])) (by decide +kernel)]; rfl
theorem v_66_8 (xs : Option (List Int32)) (n : Nat) (b : Bool) (d : Nat) (ml : List Value) (t : T) (Q : Option Value → T → Prop) (st : List Value) : vc xs zH_66 (n + 1) b d 66 8 ml st t Q = vgi ml 4 (fun v => vc xs zH_66 n true d 66 10 ml (.int v :: st) t Q) := by
  rw [vc_q (o := (1, 0, 4, 1, [])) (by decide +kernel)]; rfl
theorem v_66_10 (xs : Option (List Int32)) (n : Nat) (b : Bool) (d : Nat) (ml : List Value) (t : T) (Q : Option Value → T → Prop) (u : Int32) (r : List Value) : vc xs zH_66 (n + 1) b d 66 10 ml (.int u :: r) t Q = (if u = 0 then vc xs zH_66 n true d 66 13 ml r t Q else vc xs zH_66 n true d 66 51 ml r t Q) := by
  rw [vc_q (o := (21, 0, 51, 1, [])) (by decide +kernel)]; rfl
theorem v_66_13 (xs : Option (List Int32)) (n : Nat) (b : Bool) (d : Nat) (ml : List Value) (t : T) (Q : Option Value → T → Prop) (st : List Value) : vc xs zH_66 (n + 1) b d 66 13 ml st t Q = vga ml 0 (fun v => vc xs zH_66 n true d 66 14 ml (.ref v :: st) t Q) := by
  rw [vc_q (o := (2, 0, 0, 0, [])) (by decide +kernel)]; rfl
theorem v_66_14 (xs : Option (List Int32)) (n : Nat) (b : Bool) (d : Nat) (ml : List Value) (t : T) (Q : Option Value → T → Prop) (u : Nat) (r : List Value) : vc xs zH_66 (n + 1) b d 66 14 ml (.ref u :: r) t Q = (vtag u = 12 ∧ vc xs zH_66 n true d 66 17 ml (.ref (tref t u 31) :: r) t Q) := by
  rw [vc_q (o := (25, 0, 12, 31, [])) (by decide +kernel)]; rfl
theorem v_66_17 (xs : Option (List Int32)) (n : Nat) (b : Bool) (d : Nat) (ml : List Value) (t : T) (Q : Option Value → T → Prop) (st : List Value) : vc xs zH_66 (n + 1) b d 66 17 ml st t Q = vgi ml 2 (fun v => vc xs zH_66 n true d 66 18 ml (.int v :: st) t Q) := by
  rw [vc_q (o := (1, 0, 2, 0, [])) (by decide +kernel)]; rfl
theorem v_66_18 (xs : Option (List Int32)) (n : Nat) (b : Bool) (d : Nat) (ml : List Value) (t : T) (Q : Option Value → T → Prop) (st : List Value) : vc xs zH_66 (n + 1) b d 66 18 ml st t Q = vga ml 0 (fun v => vc xs zH_66 n true d 66 19 ml (.ref v :: st) t Q) := by
  rw [vc_q (o := (2, 0, 0, 0, [])) (by decide +kernel)]; rfl
theorem v_66_19 (xs : Option (List Int32)) (n : Nat) (b : Bool) (d : Nat) (ml : List Value) (t : T) (Q : Option Value → T → Prop) (u : Nat) (r : List Value) : vc xs zH_66 (n + 1) b d 66 19 ml (.ref u :: r) t Q = (vtag u = 12 ∧ vc xs zH_66 n true d 66 22 ml (.ref (tref t u 27) :: r) t Q) := by
  rw [vc_q (o := (25, 0, 12, 27, [])) (by decide +kernel)]; rfl
theorem v_66_22 (xs : Option (List Int32)) (n : Nat) (b : Bool) (d : Nat) (ml : List Value) (t : T) (Q : Option Value → T → Prop) (st : List Value) : vc xs zH_66 (n + 1) b d 66 22 ml st t Q = vgi ml 6 (fun v => vc xs zH_66 n true d 66 24 ml (.int v :: st) t Q) := by
  rw [vc_q (o := (1, 0, 6, 1, [])) (by decide +kernel)]; rfl
theorem v_66_24 (xs : Option (List Int32)) (n : Nat) (b : Bool) (d : Nat) (ml : List Value) (t : T) (Q : Option Value → T → Prop) (v : Int32) (u : Nat) (r : List Value) : vc xs zH_66 (n + 1) b d 66 24 ml (.int v :: .ref u :: r) t Q = (vtag u = 100 ∧ vinb v (vlen u) ∧ vc xs zH_66 n true d 66 25 ml (.int (t.1 u v.toNatClampNeg) :: r) t Q) := by
  rw [vc_q (o := (29, 0, 0, 0, [])) (by decide +kernel)]; rfl
theorem v_66_25 (xs : Option (List Int32)) (n : Nat) (b : Bool) (d : Nat) (ml : List Value) (t : T) (Q : Option Value → T → Prop) (w v : Int32) (u : Nat) (r : List Value) : vc xs zH_66 (n + 1) b d 66 25 ml (.int w :: .int v :: .ref u :: r) t Q = (vtag u = 100 ∧ vinb v (vlen u) ∧ vc xs zH_66 n true d 66 26 ml r (tsi t u v.toNatClampNeg w) Q) := by
  rw [vc_q (o := (32, 0, 0, 0, [])) (by decide +kernel)]; rfl
theorem v_66_26 (xs : Option (List Int32)) (n : Nat) (b : Bool) (d : Nat) (ml : List Value) (t : T) (Q : Option Value → T → Prop) (st : List Value) : vc xs zH_66 (n + 1) b d 66 26 ml st t Q = vga ml 0 (fun v => vc xs zH_66 n true d 66 27 ml (.ref v :: st) t Q) := by
  rw [vc_q (o := (2, 0, 0, 0, [])) (by decide +kernel)]; rfl
theorem v_66_27 (xs : Option (List Int32)) (n : Nat) (b : Bool) (d : Nat) (ml : List Value) (t : T) (Q : Option Value → T → Prop) (u : Nat) (r : List Value) : vc xs zH_66 (n + 1) b d 66 27 ml (.ref u :: r) t Q = (vtag u = 12 ∧ vc xs zH_66 n true d 66 30 ml (.ref (tref t u 30) :: r) t Q) := by
  rw [vc_q (o := (25, 0, 12, 30, [])) (by decide +kernel)]; rfl
theorem v_66_30 (xs : Option (List Int32)) (n : Nat) (b : Bool) (d : Nat) (ml : List Value) (t : T) (Q : Option Value → T → Prop) (st : List Value) : vc xs zH_66 (n + 1) b d 66 30 ml st t Q = vgi ml 2 (fun v => vc xs zH_66 n true d 66 31 ml (.int v :: st) t Q) := by
  rw [vc_q (o := (1, 0, 2, 0, [])) (by decide +kernel)]; rfl
theorem v_66_31 (xs : Option (List Int32)) (n : Nat) (b : Bool) (d : Nat) (ml : List Value) (t : T) (Q : Option Value → T → Prop) (st : List Value) : vc xs zH_66 (n + 1) b d 66 31 ml st t Q = vga ml 0 (fun v => vc xs zH_66 n true d 66 32 ml (.ref v :: st) t Q) := by
  rw [vc_q (o := (2, 0, 0, 0, [])) (by decide +kernel)]; rfl
theorem v_66_32 (xs : Option (List Int32)) (n : Nat) (b : Bool) (d : Nat) (ml : List Value) (t : T) (Q : Option Value → T → Prop) (u : Nat) (r : List Value) : vc xs zH_66 (n + 1) b d 66 32 ml (.ref u :: r) t Q = (vtag u = 12 ∧ vc xs zH_66 n true d 66 35 ml (.ref (tref t u 2) :: r) t Q) := by
  rw [vc_q (o := (25, 0, 12, 2, [])) (by decide +kernel)]; rfl
theorem v_66_35 (xs : Option (List Int32)) (n : Nat) (b : Bool) (d : Nat) (ml : List Value) (t : T) (Q : Option Value → T → Prop) (st : List Value) : vc xs zH_66 (n + 1) b d 66 35 ml st t Q = vgi ml 3 (fun v => vc xs zH_66 n true d 66 36 ml (.int v :: st) t Q) := by
  rw [vc_q (o := (1, 0, 3, 0, [])) (by decide +kernel)]; rfl
theorem v_66_36 (xs : Option (List Int32)) (n : Nat) (b : Bool) (d : Nat) (ml : List Value) (t : T) (Q : Option Value → T → Prop) (v : Int32) (u : Nat) (r : List Value) : vc xs zH_66 (n + 1) b d 66 36 ml (.int v :: .ref u :: r) t Q = (vtag u = 100 ∧ vinb v (vlen u) ∧ vc xs zH_66 n true d 66 37 ml (.int (t.1 u v.toNatClampNeg) :: r) t Q) := by
  rw [vc_q (o := (29, 0, 0, 0, [])) (by decide +kernel)]; rfl
theorem v_66_37 (xs : Option (List Int32)) (n : Nat) (b : Bool) (d : Nat) (ml : List Value) (t : T) (Q : Option Value → T → Prop) (st : List Value) : vc xs zH_66 (n + 1) b d 66 37 ml st t Q = vc xs zH_66 n true d 66 39 ml (.int 6 :: st) t Q := by
  rw [vc_q (o := (0, 6, 1, 0, [])) (by decide +kernel)]; rfl
theorem v_66_39 (xs : Option (List Int32)) (n : Nat) (b : Bool) (d : Nat) (ml : List Value) (t : T) (Q : Option Value → T → Prop) (u v : Int32) (r : List Value) : vc xs zH_66 (n + 1) b d 66 39 ml (.int v :: .int u :: r) t Q = (if u = v then vc xs zH_66 n true d 66 42 ml r t Q else vc xs zH_66 n true d 66 46 ml r t Q) := by
  rw [vc_q (o := (20, 0, 46, 1, [])) (by decide +kernel)]; rfl
theorem v_66_42 (xs : Option (List Int32)) (n : Nat) (b : Bool) (d : Nat) (ml : List Value) (t : T) (Q : Option Value → T → Prop) (st : List Value) : vc xs zH_66 (n + 1) b d 66 42 ml st t Q = vc xs zH_66 n true d 66 43 ml (.int 0 :: st) t Q := by
  rw [vc_q (o := (0, 0, 0, 0, [])) (by decide +kernel)]; rfl
theorem v_66_43 (xs : Option (List Int32)) (n : Nat) (b : Bool) (d : Nat) (ml : List Value) (t : T) (Q : Option Value → T → Prop) (st : List Value) : vc xs zH_66 (n + 1) b d 66 43 ml st t Q = vc xs zH_66 n true d 66 47 ml st t Q := by
  rw [vc_q (o := (22, 0, 47, 0, [])) (by decide +kernel)]; rfl
theorem v_66_46 (xs : Option (List Int32)) (n : Nat) (b : Bool) (d : Nat) (ml : List Value) (t : T) (Q : Option Value → T → Prop) (st : List Value) : vc xs zH_66 (n + 1) b d 66 46 ml st t Q = vc xs zH_66 n true d 66 47 ml (.int 1 :: st) t Q := by
  rw [vc_q (o := (0, 1, 0, 0, [])) (by decide +kernel)]; rfl
theorem v_66_47 (xs : Option (List Int32)) (n : Nat) (b : Bool) (d : Nat) (ml : List Value) (t : T) (Q : Option Value → T → Prop) (w v : Int32) (u : Nat) (r : List Value) : vc xs zH_66 (n + 1) b d 66 47 ml (.int w :: .int v :: .ref u :: r) t Q = (vtag u = 100 ∧ vinb v (vlen u) ∧ vc xs zH_66 n true d 66 48 ml r (tsi t u v.toNatClampNeg w) Q) := by
  rw [vc_q (o := (32, 0, 0, 0, [])) (by decide +kernel)]; rfl
theorem v_66_48 (xs : Option (List Int32)) (n : Nat) (b : Bool) (d : Nat) (ml : List Value) (t : T) (Q : Option Value → T → Prop) (st : List Value) : vc xs zH_66 (n + 1) b d 66 48 ml st t Q = vc xs zH_66 n true d 66 93 ml st t Q := by
  rw [vc_q (o := (22, 0, 93, 0, [])) (by decide +kernel)]; rfl
theorem v_66_51 (xs : Option (List Int32)) (n : Nat) (b : Bool) (d : Nat) (ml : List Value) (t : T) (Q : Option Value → T → Prop) (st : List Value) : vc xs zH_66 (n + 1) b d 66 51 ml st t Q = vga ml 0 (fun v => vc xs zH_66 n true d 66 52 ml (.ref v :: st) t Q) := by
  rw [vc_q (o := (2, 0, 0, 0, [])) (by decide +kernel)]; rfl
theorem v_66_52 (xs : Option (List Int32)) (n : Nat) (b : Bool) (d : Nat) (ml : List Value) (t : T) (Q : Option Value → T → Prop) (u : Nat) (r : List Value) : vc xs zH_66 (n + 1) b d 66 52 ml (.ref u :: r) t Q = (vtag u = 12 ∧ vc xs zH_66 n true d 66 55 ml (.ref (tref t u 30) :: r) t Q) := by
  rw [vc_q (o := (25, 0, 12, 30, [])) (by decide +kernel)]; rfl
theorem v_66_55 (xs : Option (List Int32)) (n : Nat) (b : Bool) (d : Nat) (ml : List Value) (t : T) (Q : Option Value → T → Prop) (st : List Value) : vc xs zH_66 (n + 1) b d 66 55 ml st t Q = vgi ml 2 (fun v => vc xs zH_66 n true d 66 56 ml (.int v :: st) t Q) := by
  rw [vc_q (o := (1, 0, 2, 0, [])) (by decide +kernel)]; rfl
theorem v_66_56 (xs : Option (List Int32)) (n : Nat) (b : Bool) (d : Nat) (ml : List Value) (t : T) (Q : Option Value → T → Prop) (st : List Value) : vc xs zH_66 (n + 1) b d 66 56 ml st t Q = vga ml 0 (fun v => vc xs zH_66 n true d 66 57 ml (.ref v :: st) t Q) := by
  rw [vc_q (o := (2, 0, 0, 0, [])) (by decide +kernel)]; rfl
theorem v_66_57 (xs : Option (List Int32)) (n : Nat) (b : Bool) (d : Nat) (ml : List Value) (t : T) (Q : Option Value → T → Prop) (u : Nat) (r : List Value) : vc xs zH_66 (n + 1) b d 66 57 ml (.ref u :: r) t Q = (vtag u = 12 ∧ vc xs zH_66 n true d 66 60 ml (.ref (tref t u 2) :: r) t Q) := by
  rw [vc_q (o := (25, 0, 12, 2, [])) (by decide +kernel)]; rfl
theorem v_66_60 (xs : Option (List Int32)) (n : Nat) (b : Bool) (d : Nat) (ml : List Value) (t : T) (Q : Option Value → T → Prop) (st : List Value) : vc xs zH_66 (n + 1) b d 66 60 ml st t Q = vgi ml 3 (fun v => vc xs zH_66 n true d 66 61 ml (.int v :: st) t Q) := by
  rw [vc_q (o := (1, 0, 3, 0, [])) (by decide +kernel)]; rfl
theorem v_66_61 (xs : Option (List Int32)) (n : Nat) (b : Bool) (d : Nat) (ml : List Value) (t : T) (Q : Option Value → T → Prop) (v : Int32) (u : Nat) (r : List Value) : vc xs zH_66 (n + 1) b d 66 61 ml (.int v :: .ref u :: r) t Q = (vtag u = 100 ∧ vinb v (vlen u) ∧ vc xs zH_66 n true d 66 62 ml (.int (t.1 u v.toNatClampNeg) :: r) t Q) := by
  rw [vc_q (o := (29, 0, 0, 0, [])) (by decide +kernel)]; rfl
theorem v_66_62 (xs : Option (List Int32)) (n : Nat) (b : Bool) (d : Nat) (ml : List Value) (t : T) (Q : Option Value → T → Prop) (st : List Value) : vc xs zH_66 (n + 1) b d 66 62 ml st t Q = vc xs zH_66 n true d 66 64 ml (.int 6 :: st) t Q := by
  rw [vc_q (o := (0, 6, 1, 0, [])) (by decide +kernel)]; rfl
theorem v_66_64 (xs : Option (List Int32)) (n : Nat) (b : Bool) (d : Nat) (ml : List Value) (t : T) (Q : Option Value → T → Prop) (u v : Int32) (r : List Value) : vc xs zH_66 (n + 1) b d 66 64 ml (.int v :: .int u :: r) t Q = (if u = v then vc xs zH_66 n true d 66 67 ml r t Q else vc xs zH_66 n true d 66 81 ml r t Q) := by
  rw [vc_q (o := (20, 0, 81, 1, [])) (by decide +kernel)]; rfl
theorem v_66_67 (xs : Option (List Int32)) (n : Nat) (b : Bool) (d : Nat) (ml : List Value) (t : T) (Q : Option Value → T → Prop) (st : List Value) : vc xs zH_66 (n + 1) b d 66 67 ml st t Q = vga ml 0 (fun v => vc xs zH_66 n true d 66 68 ml (.ref v :: st) t Q) := by
  rw [vc_q (o := (2, 0, 0, 0, [])) (by decide +kernel)]; rfl
theorem v_66_68 (xs : Option (List Int32)) (n : Nat) (b : Bool) (d : Nat) (ml : List Value) (t : T) (Q : Option Value → T → Prop) (u : Nat) (r : List Value) : vc xs zH_66 (n + 1) b d 66 68 ml (.ref u :: r) t Q = (vtag u = 12 ∧ vc xs zH_66 n true d 66 71 ml (.ref (tref t u 30) :: r) t Q) := by
  rw [vc_q (o := (25, 0, 12, 30, [])) (by decide +kernel)]; rfl
theorem v_66_71 (xs : Option (List Int32)) (n : Nat) (b : Bool) (d : Nat) (ml : List Value) (t : T) (Q : Option Value → T → Prop) (st : List Value) : vc xs zH_66 (n + 1) b d 66 71 ml st t Q = vgi ml 2 (fun v => vc xs zH_66 n true d 66 72 ml (.int v :: st) t Q) := by
  rw [vc_q (o := (1, 0, 2, 0, [])) (by decide +kernel)]; rfl
theorem v_66_72 (xs : Option (List Int32)) (n : Nat) (b : Bool) (d : Nat) (ml : List Value) (t : T) (Q : Option Value → T → Prop) (v : Int32) (u : Nat) (r : List Value) : vc xs zH_66 (n + 1) b d 66 72 ml (.int v :: .ref u :: r) t Q = (vtag u = 100 ∧ vinb v (vlen u) ∧ vc xs zH_66 n true d 66 73 ml (.int (t.1 u v.toNatClampNeg) :: r) t Q) := by
  rw [vc_q (o := (29, 0, 0, 0, [])) (by decide +kernel)]; rfl
theorem v_66_73 (xs : Option (List Int32)) (n : Nat) (b : Bool) (d : Nat) (ml : List Value) (t : T) (Q : Option Value → T → Prop) (st : List Value) : vc xs zH_66 (n + 1) b d 66 73 ml st t Q = vgi ml 5 (fun v => vc xs zH_66 n true d 66 75 ml (.int v :: st) t Q) := by
  rw [vc_q (o := (1, 0, 5, 1, [])) (by decide +kernel)]; rfl
theorem v_66_75 (xs : Option (List Int32)) (n : Nat) (b : Bool) (d : Nat) (ml : List Value) (t : T) (Q : Option Value → T → Prop) (st : List Value) : vc xs zH_66 (n + 1) b d 66 75 ml st t Q = (st.all zc1 = true ∧ vtk 2 st [] (fun as rest => rest.length ≤ 8 ∧ twc d 35 as t (fun r t' => vc xs zH_66 n true d 66 78 ml (r.toList ++ rest) t' Q))) := by
  rw [vc_q (o := (37, 0, 35, 2, [])) (by decide +kernel)]; rfl
theorem v_66_78 (xs : Option (List Int32)) (n : Nat) (b : Bool) (d : Nat) (ml : List Value) (t : T) (Q : Option Value → T → Prop) (st : List Value) : vc xs zH_66 (n + 1) b d 66 78 ml st t Q = vc xs zH_66 n true d 66 92 ml st t Q := by
  rw [vc_q (o := (22, 0, 92, 0, [])) (by decide +kernel)]; rfl
theorem v_66_81 (xs : Option (List Int32)) (n : Nat) (b : Bool) (d : Nat) (ml : List Value) (t : T) (Q : Option Value → T → Prop) (st : List Value) : vc xs zH_66 (n + 1) b d 66 81 ml st t Q = vga ml 0 (fun v => vc xs zH_66 n true d 66 82 ml (.ref v :: st) t Q) := by
  rw [vc_q (o := (2, 0, 0, 0, [])) (by decide +kernel)]; rfl
theorem v_66_82 (xs : Option (List Int32)) (n : Nat) (b : Bool) (d : Nat) (ml : List Value) (t : T) (Q : Option Value → T → Prop) (u : Nat) (r : List Value) : vc xs zH_66 (n + 1) b d 66 82 ml (.ref u :: r) t Q = (vtag u = 12 ∧ vc xs zH_66 n true d 66 85 ml (.ref (tref t u 30) :: r) t Q) := by
  rw [vc_q (o := (25, 0, 12, 30, [])) (by decide +kernel)]; rfl
theorem v_66_85 (xs : Option (List Int32)) (n : Nat) (b : Bool) (d : Nat) (ml : List Value) (t : T) (Q : Option Value → T → Prop) (st : List Value) : vc xs zH_66 (n + 1) b d 66 85 ml st t Q = vgi ml 2 (fun v => vc xs zH_66 n true d 66 86 ml (.int v :: st) t Q) := by
  rw [vc_q (o := (1, 0, 2, 0, [])) (by decide +kernel)]; rfl
theorem v_66_86 (xs : Option (List Int32)) (n : Nat) (b : Bool) (d : Nat) (ml : List Value) (t : T) (Q : Option Value → T → Prop) (v : Int32) (u : Nat) (r : List Value) : vc xs zH_66 (n + 1) b d 66 86 ml (.int v :: .ref u :: r) t Q = (vtag u = 100 ∧ vinb v (vlen u) ∧ vc xs zH_66 n true d 66 87 ml (.int (t.1 u v.toNatClampNeg) :: r) t Q) := by
  rw [vc_q (o := (29, 0, 0, 0, [])) (by decide +kernel)]; rfl
theorem v_66_87 (xs : Option (List Int32)) (n : Nat) (b : Bool) (d : Nat) (ml : List Value) (t : T) (Q : Option Value → T → Prop) (st : List Value) : vc xs zH_66 (n + 1) b d 66 87 ml st t Q = vgi ml 5 (fun v => vc xs zH_66 n true d 66 89 ml (.int v :: st) t Q) := by
  rw [vc_q (o := (1, 0, 5, 1, [])) (by decide +kernel)]; rfl
theorem v_66_89 (xs : Option (List Int32)) (n : Nat) (b : Bool) (d : Nat) (ml : List Value) (t : T) (Q : Option Value → T → Prop) (st : List Value) : vc xs zH_66 (n + 1) b d 66 89 ml st t Q = (st.all zc1 = true ∧ vtk 2 st [] (fun as rest => rest.length ≤ 8 ∧ twc d 34 as t (fun r t' => vc xs zH_66 n true d 66 92 ml (r.toList ++ rest) t' Q))) := by
  rw [vc_q (o := (37, 0, 34, 2, [])) (by decide +kernel)]; rfl
theorem v_66_92 (xs : Option (List Int32)) (n : Nat) (b : Bool) (d : Nat) (ml : List Value) (t : T) (Q : Option Value → T → Prop) (w v : Int32) (u : Nat) (r : List Value) : vc xs zH_66 (n + 1) b d 66 92 ml (.int w :: .int v :: .ref u :: r) t Q = (vtag u = 100 ∧ vinb v (vlen u) ∧ vc xs zH_66 n true d 66 93 ml r (tsi t u v.toNatClampNeg w) Q) := by
  rw [vc_q (o := (32, 0, 0, 0, [])) (by decide +kernel)]; rfl
theorem v_66_93 (xs : Option (List Int32)) (n : Nat) (d : Nat) (ml : List Value) (t : T) (Q : Option Value → T → Prop) (st : List Value) : vc xs zH_66 (n + 1) false d 66 93 ml st t Q = vga ml 0 (fun v => vc xs zH_66 n true d 66 94 ml (.ref v :: st) t Q) := by
  rw [vc_q (o := (2, 0, 0, 0, [])) (by decide +kernel)]; rfl
theorem h_66_93 (xs : Option (List Int32)) (n d : Nat) (ml st : List Value) (t : T) (Q : Option Value → T → Prop) : vc xs zH_66 (n + 1) true d 66 93 ml st t Q = twp xs d 66 93 ml st t Q := id rfl
theorem v_66_94 (xs : Option (List Int32)) (n : Nat) (b : Bool) (d : Nat) (ml : List Value) (t : T) (Q : Option Value → T → Prop) (u : Nat) (r : List Value) : vc xs zH_66 (n + 1) b d 66 94 ml (.ref u :: r) t Q = (vtag u = 12 ∧ vc xs zH_66 n true d 66 97 ml (.ref (tref t u 27) :: r) t Q) := by
  rw [vc_q (o := (25, 0, 12, 27, [])) (by decide +kernel)]; rfl
theorem v_66_97 (xs : Option (List Int32)) (n : Nat) (b : Bool) (d : Nat) (ml : List Value) (t : T) (Q : Option Value → T → Prop) (st : List Value) : vc xs zH_66 (n + 1) b d 66 97 ml st t Q = vgi ml 6 (fun v => vc xs zH_66 n true d 66 99 ml (.int v :: st) t Q) := by
  rw [vc_q (o := (1, 0, 6, 1, [])) (by decide +kernel)]; rfl
theorem v_66_99 (xs : Option (List Int32)) (n : Nat) (b : Bool) (d : Nat) (ml : List Value) (t : T) (Q : Option Value → T → Prop) (st : List Value) : vc xs zH_66 (n + 1) b d 66 99 ml st t Q = vgi ml 4 (fun v => vc xs zH_66 n true d 66 101 ml (.int v :: st) t Q) := by
  rw [vc_q (o := (1, 0, 4, 1, [])) (by decide +kernel)]; rfl
theorem v_66_101 (xs : Option (List Int32)) (n : Nat) (b : Bool) (d : Nat) (ml : List Value) (t : T) (Q : Option Value → T → Prop) (st : List Value) : vc xs zH_66 (n + 1) b d 66 101 ml st t Q = vga ml 0 (fun v => vc xs zH_66 n true d 66 102 ml (.ref v :: st) t Q) := by
  rw [vc_q (o := (2, 0, 0, 0, [])) (by decide +kernel)]; rfl
theorem v_66_102 (xs : Option (List Int32)) (n : Nat) (b : Bool) (d : Nat) (ml : List Value) (t : T) (Q : Option Value → T → Prop) (st : List Value) : vc xs zH_66 (n + 1) b d 66 102 ml st t Q = vgi ml 1 (fun v => vc xs zH_66 n true d 66 103 ml (.int v :: st) t Q) := by
  rw [vc_q (o := (1, 0, 1, 0, [])) (by decide +kernel)]; rfl
theorem v_66_103 (xs : Option (List Int32)) (n : Nat) (b : Bool) (d : Nat) (ml : List Value) (t : T) (Q : Option Value → T → Prop) (st : List Value) : vc xs zH_66 (n + 1) b d 66 103 ml st t Q = (st.all zc1 = true ∧ vtk 2 st [] (fun as rest => rest.length ≤ 8 ∧ vrc as 12 (twc d 40 as t (fun r t' => vc xs zH_66 n true d 66 106 ml (r.toList ++ rest) t' Q)))) := by
  rw [vc_q (o := (36, 0, 40, 1, [(0, 12)])) (by decide +kernel)]; rfl
theorem v_66_106 (xs : Option (List Int32)) (n : Nat) (b : Bool) (d : Nat) (ml : List Value) (t : T) (Q : Option Value → T → Prop) (u v : Int32) (r : List Value) : vc xs zH_66 (n + 1) b d 66 106 ml (.int v :: .int u :: r) t Q = (if u < v then vc xs zH_66 n true d 66 109 ml r t Q else vc xs zH_66 n true d 66 114 ml r t Q) := by
  rw [vc_q (o := (20, 0, 114, 3, [])) (by decide +kernel)]; rfl
theorem v_66_109 (xs : Option (List Int32)) (n : Nat) (b : Bool) (d : Nat) (ml : List Value) (t : T) (Q : Option Value → T → Prop) (st : List Value) : vc xs zH_66 (n + 1) b d 66 109 ml st t Q = vgi ml 4 (fun v => vc xs zH_66 n true d 66 111 ml (.int v :: st) t Q) := by
  rw [vc_q (o := (1, 0, 4, 1, [])) (by decide +kernel)]; rfl
theorem v_66_111 (xs : Option (List Int32)) (n : Nat) (b : Bool) (d : Nat) (ml : List Value) (t : T) (Q : Option Value → T → Prop) (st : List Value) : vc xs zH_66 (n + 1) b d 66 111 ml st t Q = vc xs zH_66 n true d 66 120 ml st t Q := by
  rw [vc_q (o := (22, 0, 120, 0, [])) (by decide +kernel)]; rfl
theorem v_66_114 (xs : Option (List Int32)) (n : Nat) (b : Bool) (d : Nat) (ml : List Value) (t : T) (Q : Option Value → T → Prop) (st : List Value) : vc xs zH_66 (n + 1) b d 66 114 ml st t Q = vga ml 0 (fun v => vc xs zH_66 n true d 66 115 ml (.ref v :: st) t Q) := by
  rw [vc_q (o := (2, 0, 0, 0, [])) (by decide +kernel)]; rfl
theorem v_66_115 (xs : Option (List Int32)) (n : Nat) (b : Bool) (d : Nat) (ml : List Value) (t : T) (Q : Option Value → T → Prop) (u : Nat) (r : List Value) : vc xs zH_66 (n + 1) b d 66 115 ml (.ref u :: r) t Q = (vtag u = 12 ∧ vc xs zH_66 n true d 66 118 ml (.ref (tref t u 31) :: r) t Q) := by
  rw [vc_q (o := (25, 0, 12, 31, [])) (by decide +kernel)]; rfl
theorem v_66_118 (xs : Option (List Int32)) (n : Nat) (b : Bool) (d : Nat) (ml : List Value) (t : T) (Q : Option Value → T → Prop) (st : List Value) : vc xs zH_66 (n + 1) b d 66 118 ml st t Q = vgi ml 2 (fun v => vc xs zH_66 n true d 66 119 ml (.int v :: st) t Q) := by
  rw [vc_q (o := (1, 0, 2, 0, [])) (by decide +kernel)]; rfl
theorem v_66_119 (xs : Option (List Int32)) (n : Nat) (b : Bool) (d : Nat) (ml : List Value) (t : T) (Q : Option Value → T → Prop) (v : Int32) (u : Nat) (r : List Value) : vc xs zH_66 (n + 1) b d 66 119 ml (.int v :: .ref u :: r) t Q = (vtag u = 100 ∧ vinb v (vlen u) ∧ vc xs zH_66 n true d 66 120 ml (.int (t.1 u v.toNatClampNeg) :: r) t Q) := by
  rw [vc_q (o := (29, 0, 0, 0, [])) (by decide +kernel)]; rfl
theorem v_66_120 (xs : Option (List Int32)) (n : Nat) (b : Bool) (d : Nat) (ml : List Value) (t : T) (Q : Option Value → T → Prop) (w v : Int32) (u : Nat) (r : List Value) : vc xs zH_66 (n + 1) b d 66 120 ml (.int w :: .int v :: .ref u :: r) t Q = (vtag u = 100 ∧ vinb v (vlen u) ∧ vc xs zH_66 n true d 66 121 ml r (tsi t u v.toNatClampNeg w) Q) := by
  rw [vc_q (o := (32, 0, 0, 0, [])) (by decide +kernel)]; rfl
theorem v_66_121 (xs : Option (List Int32)) (n : Nat) (b : Bool) (d : Nat) (ml : List Value) (t : T) (Q : Option Value → T → Prop) (st : List Value) : vc xs zH_66 (n + 1) b d 66 121 ml st t Q = vgi ml 4 (fun v => vc xs zH_66 n true d 66 123 ml (.int v :: st) t Q) := by
  rw [vc_q (o := (1, 0, 4, 1, [])) (by decide +kernel)]; rfl
theorem v_66_123 (xs : Option (List Int32)) (n : Nat) (b : Bool) (d : Nat) (ml : List Value) (t : T) (Q : Option Value → T → Prop) (st : List Value) : vc xs zH_66 (n + 1) b d 66 123 ml st t Q = vga ml 0 (fun v => vc xs zH_66 n true d 66 124 ml (.ref v :: st) t Q) := by
  rw [vc_q (o := (2, 0, 0, 0, [])) (by decide +kernel)]; rfl
theorem v_66_124 (xs : Option (List Int32)) (n : Nat) (b : Bool) (d : Nat) (ml : List Value) (t : T) (Q : Option Value → T → Prop) (st : List Value) : vc xs zH_66 (n + 1) b d 66 124 ml st t Q = vgi ml 1 (fun v => vc xs zH_66 n true d 66 125 ml (.int v :: st) t Q) := by
  rw [vc_q (o := (1, 0, 1, 0, [])) (by decide +kernel)]; rfl
theorem v_66_125 (xs : Option (List Int32)) (n : Nat) (b : Bool) (d : Nat) (ml : List Value) (t : T) (Q : Option Value → T → Prop) (st : List Value) : vc xs zH_66 (n + 1) b d 66 125 ml st t Q = (st.all zc1 = true ∧ vtk 2 st [] (fun as rest => rest.length ≤ 8 ∧ vrc as 12 (twc d 40 as t (fun r t' => vc xs zH_66 n true d 66 128 ml (r.toList ++ rest) t' Q)))) := by
  rw [vc_q (o := (36, 0, 40, 1, [(0, 12)])) (by decide +kernel)]; rfl
theorem v_66_128 (xs : Option (List Int32)) (n : Nat) (b : Bool) (d : Nat) (ml : List Value) (t : T) (Q : Option Value → T → Prop) (u v : Int32) (r : List Value) : vc xs zH_66 (n + 1) b d 66 128 ml (.int v :: .int u :: r) t Q = (if u < v then vc xs zH_66 n true d 66 131 ml r t Q else vc xs zH_66 n true d 66 140 ml r t Q) := by
  rw [vc_q (o := (20, 0, 140, 3, [])) (by decide +kernel)]; rfl
theorem v_66_131 (xs : Option (List Int32)) (n : Nat) (b : Bool) (d : Nat) (ml : List Value) (t : T) (Q : Option Value → T → Prop) (st : List Value) : vc xs zH_66 (n + 1) b d 66 131 ml st t Q = vga ml 0 (fun v => vc xs zH_66 n true d 66 132 ml (.ref v :: st) t Q) := by
  rw [vc_q (o := (2, 0, 0, 0, [])) (by decide +kernel)]; rfl
theorem v_66_132 (xs : Option (List Int32)) (n : Nat) (b : Bool) (d : Nat) (ml : List Value) (t : T) (Q : Option Value → T → Prop) (u : Nat) (r : List Value) : vc xs zH_66 (n + 1) b d 66 132 ml (.ref u :: r) t Q = (vtag u = 12 ∧ vc xs zH_66 n true d 66 135 ml (.ref (tref t u 5) :: r) t Q) := by
  rw [vc_q (o := (25, 0, 12, 5, [])) (by decide +kernel)]; rfl
theorem v_66_135 (xs : Option (List Int32)) (n : Nat) (b : Bool) (d : Nat) (ml : List Value) (t : T) (Q : Option Value → T → Prop) (st : List Value) : vc xs zH_66 (n + 1) b d 66 135 ml st t Q = vgi ml 3 (fun v => vc xs zH_66 n true d 66 136 ml (.int v :: st) t Q) := by
  rw [vc_q (o := (1, 0, 3, 0, [])) (by decide +kernel)]; rfl
theorem v_66_136 (xs : Option (List Int32)) (n : Nat) (b : Bool) (d : Nat) (ml : List Value) (t : T) (Q : Option Value → T → Prop) (v : Int32) (u : Nat) (r : List Value) : vc xs zH_66 (n + 1) b d 66 136 ml (.int v :: .ref u :: r) t Q = (vtag u = 100 ∧ vinb v (vlen u) ∧ vc xs zH_66 n true d 66 137 ml (.int (t.1 u v.toNatClampNeg) :: r) t Q) := by
  rw [vc_q (o := (29, 0, 0, 0, [])) (by decide +kernel)]; rfl
theorem v_66_137 (xs : Option (List Int32)) (n : Nat) (b : Bool) (d : Nat) (ml : List Value) (t : T) (Q : Option Value → T → Prop) (st : List Value) : vc xs zH_66 (n + 1) b d 66 137 ml st t Q = vc xs zH_66 n true d 66 141 ml st t Q := by
  rw [vc_q (o := (22, 0, 141, 0, [])) (by decide +kernel)]; rfl
theorem v_66_140 (xs : Option (List Int32)) (n : Nat) (b : Bool) (d : Nat) (ml : List Value) (t : T) (Q : Option Value → T → Prop) (st : List Value) : vc xs zH_66 (n + 1) b d 66 140 ml st t Q = vc xs zH_66 n true d 66 141 ml (.int (-1) :: st) t Q := by
  rw [vc_q (o := (0, (-1), 0, 0, [])) (by decide +kernel)]; rfl
theorem v_66_141 (xs : Option (List Int32)) (n : Nat) (b : Bool) (d : Nat) (ml : List Value) (t : T) (Q : Option Value → T → Prop) (v : Int32) : vc xs zH_66 (n + 1) b d 66 141 ml [.int v] t Q = Q (some (.int v)) t := by
  rw [vc_q (o := (40, 0, 0, 0, [])) (by decide +kernel)]; rfl
def zH_67 : List Nat := [50]
theorem v_67_0 (xs : Option (List Int32)) (n : Nat) (b : Bool) (d : Nat) (ml : List Value) (t : T) (Q : Option Value → T → Prop) (st : List Value) : vc xs zH_67 (n + 1) b d 67 0 ml st t Q = vga ml 0 (fun v => vc xs zH_67 n true d 67 1 ml (.ref v :: st) t Q) := by
  rw [vc_q (o := (2, 0, 0, 0, [])) (by decide +kernel)]; rfl
theorem v_67_1 (xs : Option (List Int32)) (n : Nat) (b : Bool) (d : Nat) (ml : List Value) (t : T) (Q : Option Value → T → Prop) (st : List Value) : vc xs zH_67 (n + 1) b d 67 1 ml st t Q = vgi ml 1 (fun v => vc xs zH_67 n true d 67 2 ml (.int v :: st) t Q) := by
  rw [vc_q (o := (1, 0, 1, 0, [])) (by decide +kernel)]; rfl
theorem v_67_2 (xs : Option (List Int32)) (n : Nat) (b : Bool) (d : Nat) (ml : List Value) (t : T) (Q : Option Value → T → Prop) (st : List Value) : vc xs zH_67 (n + 1) b d 67 2 ml st t Q = (st.all zc1 = true ∧ vtk 2 st [] (fun as rest => rest.length ≤ 8 ∧ vrc as 12 (twc d 40 as t (fun r t' => vc xs zH_67 n true d 67 5 ml (r.toList ++ rest) t' Q)))) := by
  rw [vc_q (o := (36, 0, 40, 1, [(0, 12)])) (by decide +kernel)]; rfl
theorem v_67_5 (xs : Option (List Int32)) (n : Nat) (b : Bool) (d : Nat) (ml : List Value) (t : T) (Q : Option Value → T → Prop) (v : Int32) (r : List Value) : vc xs zH_67 (n + 1) b d 67 5 ml (.int v :: r) t Q = vset ml 6 (.int v) (fun l => vc xs zH_67 n true d 67 7 l r t Q) := by
  rw [vc_q (o := (3, 0, 6, 1, [])) (by decide +kernel)]; rfl
theorem v_67_7 (xs : Option (List Int32)) (n : Nat) (b : Bool) (d : Nat) (ml : List Value) (t : T) (Q : Option Value → T → Prop) (st : List Value) : vc xs zH_67 (n + 1) b d 67 7 ml st t Q = vgi ml 4 (fun v => vc xs zH_67 n true d 67 9 ml (.int v :: st) t Q) := by
  rw [vc_q (o := (1, 0, 4, 1, [])) (by decide +kernel)]; rfl
theorem v_67_9 (xs : Option (List Int32)) (n : Nat) (b : Bool) (d : Nat) (ml : List Value) (t : T) (Q : Option Value → T → Prop) (u : Int32) (r : List Value) : vc xs zH_67 (n + 1) b d 67 9 ml (.int u :: r) t Q = (if u = 0 then vc xs zH_67 n true d 67 12 ml r t Q else vc xs zH_67 n true d 67 39 ml r t Q) := by
  rw [vc_q (o := (21, 0, 39, 1, [])) (by decide +kernel)]; rfl
theorem v_67_12 (xs : Option (List Int32)) (n : Nat) (b : Bool) (d : Nat) (ml : List Value) (t : T) (Q : Option Value → T → Prop) (st : List Value) : vc xs zH_67 (n + 1) b d 67 12 ml st t Q = vga ml 0 (fun v => vc xs zH_67 n true d 67 13 ml (.ref v :: st) t Q) := by
  rw [vc_q (o := (2, 0, 0, 0, [])) (by decide +kernel)]; rfl
theorem v_67_13 (xs : Option (List Int32)) (n : Nat) (b : Bool) (d : Nat) (ml : List Value) (t : T) (Q : Option Value → T → Prop) (u : Nat) (r : List Value) : vc xs zH_67 (n + 1) b d 67 13 ml (.ref u :: r) t Q = (vtag u = 12 ∧ vc xs zH_67 n true d 67 16 ml (.ref (tref t u 31) :: r) t Q) := by
  rw [vc_q (o := (25, 0, 12, 31, [])) (by decide +kernel)]; rfl
theorem v_67_16 (xs : Option (List Int32)) (n : Nat) (b : Bool) (d : Nat) (ml : List Value) (t : T) (Q : Option Value → T → Prop) (st : List Value) : vc xs zH_67 (n + 1) b d 67 16 ml st t Q = vgi ml 2 (fun v => vc xs zH_67 n true d 67 17 ml (.int v :: st) t Q) := by
  rw [vc_q (o := (1, 0, 2, 0, [])) (by decide +kernel)]; rfl
theorem v_67_17 (xs : Option (List Int32)) (n : Nat) (b : Bool) (d : Nat) (ml : List Value) (t : T) (Q : Option Value → T → Prop) (st : List Value) : vc xs zH_67 (n + 1) b d 67 17 ml st t Q = vga ml 0 (fun v => vc xs zH_67 n true d 67 18 ml (.ref v :: st) t Q) := by
  rw [vc_q (o := (2, 0, 0, 0, [])) (by decide +kernel)]; rfl
theorem v_67_18 (xs : Option (List Int32)) (n : Nat) (b : Bool) (d : Nat) (ml : List Value) (t : T) (Q : Option Value → T → Prop) (u : Nat) (r : List Value) : vc xs zH_67 (n + 1) b d 67 18 ml (.ref u :: r) t Q = (vtag u = 12 ∧ vc xs zH_67 n true d 67 21 ml (.ref (tref t u 27) :: r) t Q) := by
  rw [vc_q (o := (25, 0, 12, 27, [])) (by decide +kernel)]; rfl
theorem v_67_21 (xs : Option (List Int32)) (n : Nat) (b : Bool) (d : Nat) (ml : List Value) (t : T) (Q : Option Value → T → Prop) (st : List Value) : vc xs zH_67 (n + 1) b d 67 21 ml st t Q = vc xs zH_67 n true d 67 22 ml (.int 4 :: st) t Q := by
  rw [vc_q (o := (0, 4, 0, 0, [])) (by decide +kernel)]; rfl
theorem v_67_22 (xs : Option (List Int32)) (n : Nat) (b : Bool) (d : Nat) (ml : List Value) (t : T) (Q : Option Value → T → Prop) (v : Int32) (u : Nat) (r : List Value) : vc xs zH_67 (n + 1) b d 67 22 ml (.int v :: .ref u :: r) t Q = (vtag u = 100 ∧ vinb v (vlen u) ∧ vc xs zH_67 n true d 67 23 ml (.int (t.1 u v.toNatClampNeg) :: r) t Q) := by
  rw [vc_q (o := (29, 0, 0, 0, [])) (by decide +kernel)]; rfl
theorem v_67_23 (xs : Option (List Int32)) (n : Nat) (b : Bool) (d : Nat) (ml : List Value) (t : T) (Q : Option Value → T → Prop) (w v : Int32) (u : Nat) (r : List Value) : vc xs zH_67 (n + 1) b d 67 23 ml (.int w :: .int v :: .ref u :: r) t Q = (vtag u = 100 ∧ vinb v (vlen u) ∧ vc xs zH_67 n true d 67 24 ml r (tsi t u v.toNatClampNeg w) Q) := by
  rw [vc_q (o := (32, 0, 0, 0, [])) (by decide +kernel)]; rfl
theorem v_67_24 (xs : Option (List Int32)) (n : Nat) (b : Bool) (d : Nat) (ml : List Value) (t : T) (Q : Option Value → T → Prop) (st : List Value) : vc xs zH_67 (n + 1) b d 67 24 ml st t Q = vga ml 0 (fun v => vc xs zH_67 n true d 67 25 ml (.ref v :: st) t Q) := by
  rw [vc_q (o := (2, 0, 0, 0, [])) (by decide +kernel)]; rfl
theorem v_67_25 (xs : Option (List Int32)) (n : Nat) (b : Bool) (d : Nat) (ml : List Value) (t : T) (Q : Option Value → T → Prop) (u : Nat) (r : List Value) : vc xs zH_67 (n + 1) b d 67 25 ml (.ref u :: r) t Q = (vtag u = 12 ∧ vc xs zH_67 n true d 67 28 ml (.ref (tref t u 32) :: r) t Q) := by
  rw [vc_q (o := (25, 0, 12, 32, [])) (by decide +kernel)]; rfl
theorem v_67_28 (xs : Option (List Int32)) (n : Nat) (b : Bool) (d : Nat) (ml : List Value) (t : T) (Q : Option Value → T → Prop) (st : List Value) : vc xs zH_67 (n + 1) b d 67 28 ml st t Q = vgi ml 2 (fun v => vc xs zH_67 n true d 67 29 ml (.int v :: st) t Q) := by
  rw [vc_q (o := (1, 0, 2, 0, [])) (by decide +kernel)]; rfl
theorem v_67_29 (xs : Option (List Int32)) (n : Nat) (b : Bool) (d : Nat) (ml : List Value) (t : T) (Q : Option Value → T → Prop) (st : List Value) : vc xs zH_67 (n + 1) b d 67 29 ml st t Q = vga ml 0 (fun v => vc xs zH_67 n true d 67 30 ml (.ref v :: st) t Q) := by
  rw [vc_q (o := (2, 0, 0, 0, [])) (by decide +kernel)]; rfl
theorem v_67_30 (xs : Option (List Int32)) (n : Nat) (b : Bool) (d : Nat) (ml : List Value) (t : T) (Q : Option Value → T → Prop) (u : Nat) (r : List Value) : vc xs zH_67 (n + 1) b d 67 30 ml (.ref u :: r) t Q = (vtag u = 12 ∧ vc xs zH_67 n true d 67 33 ml (.ref (tref t u 27) :: r) t Q) := by
  rw [vc_q (o := (25, 0, 12, 27, [])) (by decide +kernel)]; rfl
theorem v_67_33 (xs : Option (List Int32)) (n : Nat) (b : Bool) (d : Nat) (ml : List Value) (t : T) (Q : Option Value → T → Prop) (st : List Value) : vc xs zH_67 (n + 1) b d 67 33 ml st t Q = vc xs zH_67 n true d 67 34 ml (.int 5 :: st) t Q := by
  rw [vc_q (o := (0, 5, 0, 0, [])) (by decide +kernel)]; rfl
theorem v_67_34 (xs : Option (List Int32)) (n : Nat) (b : Bool) (d : Nat) (ml : List Value) (t : T) (Q : Option Value → T → Prop) (v : Int32) (u : Nat) (r : List Value) : vc xs zH_67 (n + 1) b d 67 34 ml (.int v :: .ref u :: r) t Q = (vtag u = 100 ∧ vinb v (vlen u) ∧ vc xs zH_67 n true d 67 35 ml (.int (t.1 u v.toNatClampNeg) :: r) t Q) := by
  rw [vc_q (o := (29, 0, 0, 0, [])) (by decide +kernel)]; rfl
theorem v_67_35 (xs : Option (List Int32)) (n : Nat) (b : Bool) (d : Nat) (ml : List Value) (t : T) (Q : Option Value → T → Prop) (w v : Int32) (u : Nat) (r : List Value) : vc xs zH_67 (n + 1) b d 67 35 ml (.int w :: .int v :: .ref u :: r) t Q = (vtag u = 100 ∧ vinb v (vlen u) ∧ vc xs zH_67 n true d 67 36 ml r (tsi t u v.toNatClampNeg w) Q) := by
  rw [vc_q (o := (32, 0, 0, 0, [])) (by decide +kernel)]; rfl
theorem v_67_36 (xs : Option (List Int32)) (n : Nat) (b : Bool) (d : Nat) (ml : List Value) (t : T) (Q : Option Value → T → Prop) (st : List Value) : vc xs zH_67 (n + 1) b d 67 36 ml st t Q = vc xs zH_67 n true d 67 50 ml st t Q := by
  rw [vc_q (o := (22, 0, 50, 0, [])) (by decide +kernel)]; rfl
theorem v_67_39 (xs : Option (List Int32)) (n : Nat) (b : Bool) (d : Nat) (ml : List Value) (t : T) (Q : Option Value → T → Prop) (st : List Value) : vc xs zH_67 (n + 1) b d 67 39 ml st t Q = vga ml 0 (fun v => vc xs zH_67 n true d 67 40 ml (.ref v :: st) t Q) := by
  rw [vc_q (o := (2, 0, 0, 0, [])) (by decide +kernel)]; rfl
theorem v_67_40 (xs : Option (List Int32)) (n : Nat) (b : Bool) (d : Nat) (ml : List Value) (t : T) (Q : Option Value → T → Prop) (u : Nat) (r : List Value) : vc xs zH_67 (n + 1) b d 67 40 ml (.ref u :: r) t Q = (vtag u = 12 ∧ vc xs zH_67 n true d 67 43 ml (.ref (tref t u 33) :: r) t Q) := by
  rw [vc_q (o := (25, 0, 12, 33, [])) (by decide +kernel)]; rfl
theorem v_67_43 (xs : Option (List Int32)) (n : Nat) (b : Bool) (d : Nat) (ml : List Value) (t : T) (Q : Option Value → T → Prop) (st : List Value) : vc xs zH_67 (n + 1) b d 67 43 ml st t Q = vgi ml 4 (fun v => vc xs zH_67 n true d 67 45 ml (.int v :: st) t Q) := by
  rw [vc_q (o := (1, 0, 4, 1, [])) (by decide +kernel)]; rfl
theorem v_67_45 (xs : Option (List Int32)) (n : Nat) (b : Bool) (d : Nat) (ml : List Value) (t : T) (Q : Option Value → T → Prop) (st : List Value) : vc xs zH_67 (n + 1) b d 67 45 ml st t Q = vc xs zH_67 n true d 67 46 ml (.int 1 :: st) t Q := by
  rw [vc_q (o := (0, 1, 0, 0, [])) (by decide +kernel)]; rfl
theorem v_67_46 (xs : Option (List Int32)) (n : Nat) (b : Bool) (d : Nat) (ml : List Value) (t : T) (Q : Option Value → T → Prop) (u v : Int32) (r : List Value) : vc xs zH_67 (n + 1) b d 67 46 ml (.int v :: .int u :: r) t Q = vc xs zH_67 n true d 67 47 ml (.int (u - v) :: r) t Q := by
  rw [vc_q (o := (7, 0, 0, 0, [])) (by decide +kernel)]; rfl
theorem v_67_47 (xs : Option (List Int32)) (n : Nat) (b : Bool) (d : Nat) (ml : List Value) (t : T) (Q : Option Value → T → Prop) (st : List Value) : vc xs zH_67 (n + 1) b d 67 47 ml st t Q = vgi ml 5 (fun v => vc xs zH_67 n true d 67 49 ml (.int v :: st) t Q) := by
  rw [vc_q (o := (1, 0, 5, 1, [])) (by decide +kernel)]; rfl
theorem v_67_49 (xs : Option (List Int32)) (n : Nat) (b : Bool) (d : Nat) (ml : List Value) (t : T) (Q : Option Value → T → Prop) (w v : Int32) (u : Nat) (r : List Value) : vc xs zH_67 (n + 1) b d 67 49 ml (.int w :: .int v :: .ref u :: r) t Q = (vtag u = 100 ∧ vinb v (vlen u) ∧ vc xs zH_67 n true d 67 50 ml r (tsi t u v.toNatClampNeg w) Q) := by
  rw [vc_q (o := (32, 0, 0, 0, [])) (by decide +kernel)]; rfl
theorem v_67_50 (xs : Option (List Int32)) (n : Nat) (d : Nat) (ml : List Value) (t : T) (Q : Option Value → T → Prop) (st : List Value) : vc xs zH_67 (n + 1) false d 67 50 ml st t Q = vgi ml 4 (fun v => vc xs zH_67 n true d 67 52 ml (.int v :: st) t Q) := by
  rw [vc_q (o := (1, 0, 4, 1, [])) (by decide +kernel)]; rfl
theorem h_67_50 (xs : Option (List Int32)) (n d : Nat) (ml st : List Value) (t : T) (Q : Option Value → T → Prop) : vc xs zH_67 (n + 1) true d 67 50 ml st t Q = twp xs d 67 50 ml st t Q := id rfl
theorem v_67_52 (xs : Option (List Int32)) (n : Nat) (b : Bool) (d : Nat) (ml : List Value) (t : T) (Q : Option Value → T → Prop) (st : List Value) : vc xs zH_67 (n + 1) b d 67 52 ml st t Q = vgi ml 6 (fun v => vc xs zH_67 n true d 67 54 ml (.int v :: st) t Q) := by
  rw [vc_q (o := (1, 0, 6, 1, [])) (by decide +kernel)]; rfl
theorem v_67_54 (xs : Option (List Int32)) (n : Nat) (b : Bool) (d : Nat) (ml : List Value) (t : T) (Q : Option Value → T → Prop) (st : List Value) : vc xs zH_67 (n + 1) b d 67 54 ml st t Q = vgi ml 6 (fun v => vc xs zH_67 n true d 67 56 ml (.int v :: st) t Q) := by
  rw [vc_q (o := (1, 0, 6, 1, [])) (by decide +kernel)]; rfl
theorem v_67_56 (xs : Option (List Int32)) (n : Nat) (b : Bool) (d : Nat) (ml : List Value) (t : T) (Q : Option Value → T → Prop) (u v : Int32) (r : List Value) : vc xs zH_67 (n + 1) b d 67 56 ml (.int v :: .int u :: r) t Q = vc xs zH_67 n true d 67 57 ml (.int (u * v) :: r) t Q := by
  rw [vc_q (o := (8, 0, 0, 0, [])) (by decide +kernel)]; rfl
theorem v_67_57 (xs : Option (List Int32)) (n : Nat) (b : Bool) (d : Nat) (ml : List Value) (t : T) (Q : Option Value → T → Prop) (u v : Int32) (r : List Value) : vc xs zH_67 (n + 1) b d 67 57 ml (.int v :: .int u :: r) t Q = (if u < v then vc xs zH_67 n true d 67 60 ml r t Q else vc xs zH_67 n true d 67 89 ml r t Q) := by
  rw [vc_q (o := (20, 0, 89, 3, [])) (by decide +kernel)]; rfl
theorem v_67_60 (xs : Option (List Int32)) (n : Nat) (b : Bool) (d : Nat) (ml : List Value) (t : T) (Q : Option Value → T → Prop) (st : List Value) : vc xs zH_67 (n + 1) b d 67 60 ml st t Q = vga ml 0 (fun v => vc xs zH_67 n true d 67 61 ml (.ref v :: st) t Q) := by
  rw [vc_q (o := (2, 0, 0, 0, [])) (by decide +kernel)]; rfl
theorem v_67_61 (xs : Option (List Int32)) (n : Nat) (b : Bool) (d : Nat) (ml : List Value) (t : T) (Q : Option Value → T → Prop) (u : Nat) (r : List Value) : vc xs zH_67 (n + 1) b d 67 61 ml (.ref u :: r) t Q = (vtag u = 12 ∧ vc xs zH_67 n true d 67 64 ml (.ref (tref t u 27) :: r) t Q) := by
  rw [vc_q (o := (25, 0, 12, 27, [])) (by decide +kernel)]; rfl
theorem v_67_64 (xs : Option (List Int32)) (n : Nat) (b : Bool) (d : Nat) (ml : List Value) (t : T) (Q : Option Value → T → Prop) (st : List Value) : vc xs zH_67 (n + 1) b d 67 64 ml st t Q = vc xs zH_67 n true d 67 65 ml (.int 4 :: st) t Q := by
  rw [vc_q (o := (0, 4, 0, 0, [])) (by decide +kernel)]; rfl
theorem v_67_65 (xs : Option (List Int32)) (n : Nat) (b : Bool) (d : Nat) (ml : List Value) (t : T) (Q : Option Value → T → Prop) (st : List Value) : vc xs zH_67 (n + 1) b d 67 65 ml st t Q = vgi ml 4 (fun v => vc xs zH_67 n true d 67 67 ml (.int v :: st) t Q) := by
  rw [vc_q (o := (1, 0, 4, 1, [])) (by decide +kernel)]; rfl
theorem v_67_67 (xs : Option (List Int32)) (n : Nat) (b : Bool) (d : Nat) (ml : List Value) (t : T) (Q : Option Value → T → Prop) (st : List Value) : vc xs zH_67 (n + 1) b d 67 67 ml st t Q = vgi ml 6 (fun v => vc xs zH_67 n true d 67 69 ml (.int v :: st) t Q) := by
  rw [vc_q (o := (1, 0, 6, 1, [])) (by decide +kernel)]; rfl
theorem v_67_69 (xs : Option (List Int32)) (n : Nat) (b : Bool) (d : Nat) (ml : List Value) (t : T) (Q : Option Value → T → Prop) (u v : Int32) (r : List Value) : vc xs zH_67 (n + 1) b d 67 69 ml (.int v :: .int u :: r) t Q = (¬ v = 0 ∧ vc xs zH_67 n true d 67 70 ml (.int (u / v) :: r) t Q) := by
  rw [vc_q (o := (14, 0, 0, 0, [])) (by decide +kernel)]; rfl
theorem v_67_70 (xs : Option (List Int32)) (n : Nat) (b : Bool) (d : Nat) (ml : List Value) (t : T) (Q : Option Value → T → Prop) (w v : Int32) (u : Nat) (r : List Value) : vc xs zH_67 (n + 1) b d 67 70 ml (.int w :: .int v :: .ref u :: r) t Q = (vtag u = 100 ∧ vinb v (vlen u) ∧ vc xs zH_67 n true d 67 71 ml r (tsi t u v.toNatClampNeg w) Q) := by
  rw [vc_q (o := (32, 0, 0, 0, [])) (by decide +kernel)]; rfl
theorem v_67_71 (xs : Option (List Int32)) (n : Nat) (b : Bool) (d : Nat) (ml : List Value) (t : T) (Q : Option Value → T → Prop) (st : List Value) : vc xs zH_67 (n + 1) b d 67 71 ml st t Q = vga ml 0 (fun v => vc xs zH_67 n true d 67 72 ml (.ref v :: st) t Q) := by
  rw [vc_q (o := (2, 0, 0, 0, [])) (by decide +kernel)]; rfl
theorem v_67_72 (xs : Option (List Int32)) (n : Nat) (b : Bool) (d : Nat) (ml : List Value) (t : T) (Q : Option Value → T → Prop) (u : Nat) (r : List Value) : vc xs zH_67 (n + 1) b d 67 72 ml (.ref u :: r) t Q = (vtag u = 12 ∧ vc xs zH_67 n true d 67 75 ml (.ref (tref t u 27) :: r) t Q) := by
  rw [vc_q (o := (25, 0, 12, 27, [])) (by decide +kernel)]; rfl
theorem v_67_75 (xs : Option (List Int32)) (n : Nat) (b : Bool) (d : Nat) (ml : List Value) (t : T) (Q : Option Value → T → Prop) (st : List Value) : vc xs zH_67 (n + 1) b d 67 75 ml st t Q = vc xs zH_67 n true d 67 76 ml (.int 5 :: st) t Q := by
  rw [vc_q (o := (0, 5, 0, 0, [])) (by decide +kernel)]; rfl
theorem v_67_76 (xs : Option (List Int32)) (n : Nat) (b : Bool) (d : Nat) (ml : List Value) (t : T) (Q : Option Value → T → Prop) (st : List Value) : vc xs zH_67 (n + 1) b d 67 76 ml st t Q = vgi ml 4 (fun v => vc xs zH_67 n true d 67 78 ml (.int v :: st) t Q) := by
  rw [vc_q (o := (1, 0, 4, 1, [])) (by decide +kernel)]; rfl
theorem v_67_78 (xs : Option (List Int32)) (n : Nat) (b : Bool) (d : Nat) (ml : List Value) (t : T) (Q : Option Value → T → Prop) (st : List Value) : vc xs zH_67 (n + 1) b d 67 78 ml st t Q = vgi ml 6 (fun v => vc xs zH_67 n true d 67 80 ml (.int v :: st) t Q) := by
  rw [vc_q (o := (1, 0, 6, 1, [])) (by decide +kernel)]; rfl
theorem v_67_80 (xs : Option (List Int32)) (n : Nat) (b : Bool) (d : Nat) (ml : List Value) (t : T) (Q : Option Value → T → Prop) (u v : Int32) (r : List Value) : vc xs zH_67 (n + 1) b d 67 80 ml (.int v :: .int u :: r) t Q = (¬ v = 0 ∧ vc xs zH_67 n true d 67 81 ml (.int (u - u / v * v) :: r) t Q) := by
  rw [vc_q (o := (15, 0, 0, 0, [])) (by decide +kernel)]; rfl
theorem v_67_81 (xs : Option (List Int32)) (n : Nat) (b : Bool) (d : Nat) (ml : List Value) (t : T) (Q : Option Value → T → Prop) (w v : Int32) (u : Nat) (r : List Value) : vc xs zH_67 (n + 1) b d 67 81 ml (.int w :: .int v :: .ref u :: r) t Q = (vtag u = 100 ∧ vinb v (vlen u) ∧ vc xs zH_67 n true d 67 82 ml r (tsi t u v.toNatClampNeg w) Q) := by
  rw [vc_q (o := (32, 0, 0, 0, [])) (by decide +kernel)]; rfl
theorem v_67_82 (xs : Option (List Int32)) (n : Nat) (b : Bool) (d : Nat) (ml : List Value) (t : T) (Q : Option Value → T → Prop) (st : List Value) : vc xs zH_67 (n + 1) b d 67 82 ml st t Q = vga ml 0 (fun v => vc xs zH_67 n true d 67 83 ml (.ref v :: st) t Q) := by
  rw [vc_q (o := (2, 0, 0, 0, [])) (by decide +kernel)]; rfl
theorem v_67_83 (xs : Option (List Int32)) (n : Nat) (b : Bool) (d : Nat) (ml : List Value) (t : T) (Q : Option Value → T → Prop) (u : Nat) (r : List Value) : vc xs zH_67 (n + 1) b d 67 83 ml (.ref u :: r) t Q = (vtag u = 12 ∧ vc xs zH_67 n true d 67 86 ml (.ref (tref t u 5) :: r) t Q) := by
  rw [vc_q (o := (25, 0, 12, 5, [])) (by decide +kernel)]; rfl
theorem v_67_86 (xs : Option (List Int32)) (n : Nat) (b : Bool) (d : Nat) (ml : List Value) (t : T) (Q : Option Value → T → Prop) (st : List Value) : vc xs zH_67 (n + 1) b d 67 86 ml st t Q = vgi ml 3 (fun v => vc xs zH_67 n true d 67 87 ml (.int v :: st) t Q) := by
  rw [vc_q (o := (1, 0, 3, 0, [])) (by decide +kernel)]; rfl
theorem v_67_87 (xs : Option (List Int32)) (n : Nat) (b : Bool) (d : Nat) (ml : List Value) (t : T) (Q : Option Value → T → Prop) (v : Int32) (u : Nat) (r : List Value) : vc xs zH_67 (n + 1) b d 67 87 ml (.int v :: .ref u :: r) t Q = (vtag u = 100 ∧ vinb v (vlen u) ∧ vc xs zH_67 n true d 67 88 ml (.int (t.1 u v.toNatClampNeg) :: r) t Q) := by
  rw [vc_q (o := (29, 0, 0, 0, [])) (by decide +kernel)]; rfl
theorem v_67_88 (xs : Option (List Int32)) (n : Nat) (b : Bool) (d : Nat) (ml : List Value) (t : T) (Q : Option Value → T → Prop) (v : Int32) : vc xs zH_67 (n + 1) b d 67 88 ml [.int v] t Q = Q (some (.int v)) t := by
  rw [vc_q (o := (40, 0, 0, 0, [])) (by decide +kernel)]; rfl
theorem v_67_89 (xs : Option (List Int32)) (n : Nat) (b : Bool) (d : Nat) (ml : List Value) (t : T) (Q : Option Value → T → Prop) (st : List Value) : vc xs zH_67 (n + 1) b d 67 89 ml st t Q = vga ml 0 (fun v => vc xs zH_67 n true d 67 90 ml (.ref v :: st) t Q) := by
  rw [vc_q (o := (2, 0, 0, 0, [])) (by decide +kernel)]; rfl
theorem v_67_90 (xs : Option (List Int32)) (n : Nat) (b : Bool) (d : Nat) (ml : List Value) (t : T) (Q : Option Value → T → Prop) (u : Nat) (r : List Value) : vc xs zH_67 (n + 1) b d 67 90 ml (.ref u :: r) t Q = (vtag u = 12 ∧ vc xs zH_67 n true d 67 93 ml (.ref (tref t u 27) :: r) t Q) := by
  rw [vc_q (o := (25, 0, 12, 27, [])) (by decide +kernel)]; rfl
theorem v_67_93 (xs : Option (List Int32)) (n : Nat) (b : Bool) (d : Nat) (ml : List Value) (t : T) (Q : Option Value → T → Prop) (st : List Value) : vc xs zH_67 (n + 1) b d 67 93 ml st t Q = vc xs zH_67 n true d 67 94 ml (.int 4 :: st) t Q := by
  rw [vc_q (o := (0, 4, 0, 0, [])) (by decide +kernel)]; rfl
theorem v_67_94 (xs : Option (List Int32)) (n : Nat) (b : Bool) (d : Nat) (ml : List Value) (t : T) (Q : Option Value → T → Prop) (st : List Value) : vc xs zH_67 (n + 1) b d 67 94 ml st t Q = vga ml 0 (fun v => vc xs zH_67 n true d 67 95 ml (.ref v :: st) t Q) := by
  rw [vc_q (o := (2, 0, 0, 0, [])) (by decide +kernel)]; rfl
theorem v_67_95 (xs : Option (List Int32)) (n : Nat) (b : Bool) (d : Nat) (ml : List Value) (t : T) (Q : Option Value → T → Prop) (u : Nat) (r : List Value) : vc xs zH_67 (n + 1) b d 67 95 ml (.ref u :: r) t Q = (vtag u = 12 ∧ vc xs zH_67 n true d 67 98 ml (.ref (tref t u 31) :: r) t Q) := by
  rw [vc_q (o := (25, 0, 12, 31, [])) (by decide +kernel)]; rfl
theorem v_67_98 (xs : Option (List Int32)) (n : Nat) (b : Bool) (d : Nat) (ml : List Value) (t : T) (Q : Option Value → T → Prop) (st : List Value) : vc xs zH_67 (n + 1) b d 67 98 ml st t Q = vgi ml 2 (fun v => vc xs zH_67 n true d 67 99 ml (.int v :: st) t Q) := by
  rw [vc_q (o := (1, 0, 2, 0, [])) (by decide +kernel)]; rfl
theorem v_67_99 (xs : Option (List Int32)) (n : Nat) (b : Bool) (d : Nat) (ml : List Value) (t : T) (Q : Option Value → T → Prop) (v : Int32) (u : Nat) (r : List Value) : vc xs zH_67 (n + 1) b d 67 99 ml (.int v :: .ref u :: r) t Q = (vtag u = 100 ∧ vinb v (vlen u) ∧ vc xs zH_67 n true d 67 100 ml (.int (t.1 u v.toNatClampNeg) :: r) t Q) := by
  rw [vc_q (o := (29, 0, 0, 0, [])) (by decide +kernel)]; rfl
theorem v_67_100 (xs : Option (List Int32)) (n : Nat) (b : Bool) (d : Nat) (ml : List Value) (t : T) (Q : Option Value → T → Prop) (w v : Int32) (u : Nat) (r : List Value) : vc xs zH_67 (n + 1) b d 67 100 ml (.int w :: .int v :: .ref u :: r) t Q = (vtag u = 100 ∧ vinb v (vlen u) ∧ vc xs zH_67 n true d 67 101 ml r (tsi t u v.toNatClampNeg w) Q) := by
  rw [vc_q (o := (32, 0, 0, 0, [])) (by decide +kernel)]; rfl
theorem v_67_101 (xs : Option (List Int32)) (n : Nat) (b : Bool) (d : Nat) (ml : List Value) (t : T) (Q : Option Value → T → Prop) (st : List Value) : vc xs zH_67 (n + 1) b d 67 101 ml st t Q = vga ml 0 (fun v => vc xs zH_67 n true d 67 102 ml (.ref v :: st) t Q) := by
  rw [vc_q (o := (2, 0, 0, 0, [])) (by decide +kernel)]; rfl
theorem v_67_102 (xs : Option (List Int32)) (n : Nat) (b : Bool) (d : Nat) (ml : List Value) (t : T) (Q : Option Value → T → Prop) (u : Nat) (r : List Value) : vc xs zH_67 (n + 1) b d 67 102 ml (.ref u :: r) t Q = (vtag u = 12 ∧ vc xs zH_67 n true d 67 105 ml (.ref (tref t u 27) :: r) t Q) := by
  rw [vc_q (o := (25, 0, 12, 27, [])) (by decide +kernel)]; rfl
theorem v_67_105 (xs : Option (List Int32)) (n : Nat) (b : Bool) (d : Nat) (ml : List Value) (t : T) (Q : Option Value → T → Prop) (st : List Value) : vc xs zH_67 (n + 1) b d 67 105 ml st t Q = vc xs zH_67 n true d 67 106 ml (.int 5 :: st) t Q := by
  rw [vc_q (o := (0, 5, 0, 0, [])) (by decide +kernel)]; rfl
theorem v_67_106 (xs : Option (List Int32)) (n : Nat) (b : Bool) (d : Nat) (ml : List Value) (t : T) (Q : Option Value → T → Prop) (st : List Value) : vc xs zH_67 (n + 1) b d 67 106 ml st t Q = vga ml 0 (fun v => vc xs zH_67 n true d 67 107 ml (.ref v :: st) t Q) := by
  rw [vc_q (o := (2, 0, 0, 0, [])) (by decide +kernel)]; rfl
theorem v_67_107 (xs : Option (List Int32)) (n : Nat) (b : Bool) (d : Nat) (ml : List Value) (t : T) (Q : Option Value → T → Prop) (u : Nat) (r : List Value) : vc xs zH_67 (n + 1) b d 67 107 ml (.ref u :: r) t Q = (vtag u = 12 ∧ vc xs zH_67 n true d 67 110 ml (.ref (tref t u 32) :: r) t Q) := by
  rw [vc_q (o := (25, 0, 12, 32, [])) (by decide +kernel)]; rfl
theorem v_67_110 (xs : Option (List Int32)) (n : Nat) (b : Bool) (d : Nat) (ml : List Value) (t : T) (Q : Option Value → T → Prop) (st : List Value) : vc xs zH_67 (n + 1) b d 67 110 ml st t Q = vgi ml 2 (fun v => vc xs zH_67 n true d 67 111 ml (.int v :: st) t Q) := by
  rw [vc_q (o := (1, 0, 2, 0, [])) (by decide +kernel)]; rfl
theorem v_67_111 (xs : Option (List Int32)) (n : Nat) (b : Bool) (d : Nat) (ml : List Value) (t : T) (Q : Option Value → T → Prop) (v : Int32) (u : Nat) (r : List Value) : vc xs zH_67 (n + 1) b d 67 111 ml (.int v :: .ref u :: r) t Q = (vtag u = 100 ∧ vinb v (vlen u) ∧ vc xs zH_67 n true d 67 112 ml (.int (t.1 u v.toNatClampNeg) :: r) t Q) := by
  rw [vc_q (o := (29, 0, 0, 0, [])) (by decide +kernel)]; rfl
theorem v_67_112 (xs : Option (List Int32)) (n : Nat) (b : Bool) (d : Nat) (ml : List Value) (t : T) (Q : Option Value → T → Prop) (w v : Int32) (u : Nat) (r : List Value) : vc xs zH_67 (n + 1) b d 67 112 ml (.int w :: .int v :: .ref u :: r) t Q = (vtag u = 100 ∧ vinb v (vlen u) ∧ vc xs zH_67 n true d 67 113 ml r (tsi t u v.toNatClampNeg w) Q) := by
  rw [vc_q (o := (32, 0, 0, 0, [])) (by decide +kernel)]; rfl
theorem v_67_113 (xs : Option (List Int32)) (n : Nat) (b : Bool) (d : Nat) (ml : List Value) (t : T) (Q : Option Value → T → Prop) (st : List Value) : vc xs zH_67 (n + 1) b d 67 113 ml st t Q = vga ml 0 (fun v => vc xs zH_67 n true d 67 114 ml (.ref v :: st) t Q) := by
  rw [vc_q (o := (2, 0, 0, 0, [])) (by decide +kernel)]; rfl
theorem v_67_114 (xs : Option (List Int32)) (n : Nat) (b : Bool) (d : Nat) (ml : List Value) (t : T) (Q : Option Value → T → Prop) (st : List Value) : vc xs zH_67 (n + 1) b d 67 114 ml st t Q = vgi ml 6 (fun v => vc xs zH_67 n true d 67 116 ml (.int v :: st) t Q) := by
  rw [vc_q (o := (1, 0, 6, 1, [])) (by decide +kernel)]; rfl
theorem v_67_116 (xs : Option (List Int32)) (n : Nat) (b : Bool) (d : Nat) (ml : List Value) (t : T) (Q : Option Value → T → Prop) (st : List Value) : vc xs zH_67 (n + 1) b d 67 116 ml st t Q = (st.all zc1 = true ∧ vtk 2 st [] (fun as rest => rest.length ≤ 8 ∧ vrc as 12 (twc d 63 as t (fun r t' => vc xs zH_67 n true d 67 119 ml (r.toList ++ rest) t' Q)))) := by
  rw [vc_q (o := (36, 0, 63, 1, [(0, 12)])) (by decide +kernel)]; rfl
theorem v_67_119 (xs : Option (List Int32)) (n : Nat) (b : Bool) (d : Nat) (ml : List Value) (t : T) (Q : Option Value → T → Prop) (st : List Value) : vc xs zH_67 (n + 1) b d 67 119 ml st t Q = vc xs zH_67 n true d 67 120 ml (.int (-1) :: st) t Q := by
  rw [vc_q (o := (0, (-1), 0, 0, [])) (by decide +kernel)]; rfl
theorem v_67_120 (xs : Option (List Int32)) (n : Nat) (b : Bool) (d : Nat) (ml : List Value) (t : T) (Q : Option Value → T → Prop) (v : Int32) : vc xs zH_67 (n + 1) b d 67 120 ml [.int v] t Q = Q (some (.int v)) t := by
  rw [vc_q (o := (40, 0, 0, 0, [])) (by decide +kernel)]; rfl
def zH_68 : List Nat := [3]
theorem v_68_0 (xs : Option (List Int32)) (n : Nat) (b : Bool) (d : Nat) (ml : List Value) (t : T) (Q : Option Value → T → Prop) (st : List Value) : vc xs zH_68 (n + 1) b d 68 0 ml st t Q = vc xs zH_68 n true d 68 1 ml (.int 0 :: st) t Q := by
  rw [vc_q (o := (0, 0, 0, 0, [])) (by decide +kernel)]; rfl
theorem v_68_1 (xs : Option (List Int32)) (n : Nat) (b : Bool) (d : Nat) (ml : List Value) (t : T) (Q : Option Value → T → Prop) (v : Int32) (r : List Value) : vc xs zH_68 (n + 1) b d 68 1 ml (.int v :: r) t Q = vset ml 5 (.int v) (fun l => vc xs zH_68 n true d 68 3 l r t Q) := by
  rw [vc_q (o := (3, 0, 5, 1, [])) (by decide +kernel)]; rfl
theorem v_68_3 (xs : Option (List Int32)) (n : Nat) (d : Nat) (ml : List Value) (t : T) (Q : Option Value → T → Prop) (st : List Value) : vc xs zH_68 (n + 1) false d 68 3 ml st t Q = vgi ml 5 (fun v => vc xs zH_68 n true d 68 5 ml (.int v :: st) t Q) := by
  rw [vc_q (o := (1, 0, 5, 1, [])) (by decide +kernel)]; rfl
theorem h_68_3 (xs : Option (List Int32)) (n d : Nat) (ml st : List Value) (t : T) (Q : Option Value → T → Prop) : vc xs zH_68 (n + 1) true d 68 3 ml st t Q = twp xs d 68 3 ml st t Q := id rfl
theorem v_68_5 (xs : Option (List Int32)) (n : Nat) (b : Bool) (d : Nat) (ml : List Value) (t : T) (Q : Option Value → T → Prop) (st : List Value) : vc xs zH_68 (n + 1) b d 68 5 ml st t Q = vc xs zH_68 n true d 68 7 ml (.int 6 :: st) t Q := by
  rw [vc_q (o := (0, 6, 1, 0, [])) (by decide +kernel)]; rfl
theorem v_68_7 (xs : Option (List Int32)) (n : Nat) (b : Bool) (d : Nat) (ml : List Value) (t : T) (Q : Option Value → T → Prop) (u v : Int32) (r : List Value) : vc xs zH_68 (n + 1) b d 68 7 ml (.int v :: .int u :: r) t Q = (if u < v then vc xs zH_68 n true d 68 10 ml r t Q else vc xs zH_68 n true d 68 24 ml r t Q) := by
  rw [vc_q (o := (20, 0, 24, 3, [])) (by decide +kernel)]; rfl
theorem v_68_10 (xs : Option (List Int32)) (n : Nat) (b : Bool) (d : Nat) (ml : List Value) (t : T) (Q : Option Value → T → Prop) (st : List Value) : vc xs zH_68 (n + 1) b d 68 10 ml st t Q = vga ml 0 (fun v => vc xs zH_68 n true d 68 11 ml (.ref v :: st) t Q) := by
  rw [vc_q (o := (2, 0, 0, 0, [])) (by decide +kernel)]; rfl
theorem v_68_11 (xs : Option (List Int32)) (n : Nat) (b : Bool) (d : Nat) (ml : List Value) (t : T) (Q : Option Value → T → Prop) (u : Nat) (r : List Value) : vc xs zH_68 (n + 1) b d 68 11 ml (.ref u :: r) t Q = (vtag u = 12 ∧ vc xs zH_68 n true d 68 14 ml (.ref (tref t u 27) :: r) t Q) := by
  rw [vc_q (o := (25, 0, 12, 27, [])) (by decide +kernel)]; rfl
theorem v_68_14 (xs : Option (List Int32)) (n : Nat) (b : Bool) (d : Nat) (ml : List Value) (t : T) (Q : Option Value → T → Prop) (st : List Value) : vc xs zH_68 (n + 1) b d 68 14 ml st t Q = vgi ml 5 (fun v => vc xs zH_68 n true d 68 16 ml (.int v :: st) t Q) := by
  rw [vc_q (o := (1, 0, 5, 1, [])) (by decide +kernel)]; rfl
theorem v_68_16 (xs : Option (List Int32)) (n : Nat) (b : Bool) (d : Nat) (ml : List Value) (t : T) (Q : Option Value → T → Prop) (st : List Value) : vc xs zH_68 (n + 1) b d 68 16 ml st t Q = vc xs zH_68 n true d 68 17 ml (.int 0 :: st) t Q := by
  rw [vc_q (o := (0, 0, 0, 0, [])) (by decide +kernel)]; rfl
theorem v_68_17 (xs : Option (List Int32)) (n : Nat) (b : Bool) (d : Nat) (ml : List Value) (t : T) (Q : Option Value → T → Prop) (w v : Int32) (u : Nat) (r : List Value) : vc xs zH_68 (n + 1) b d 68 17 ml (.int w :: .int v :: .ref u :: r) t Q = (vtag u = 100 ∧ vinb v (vlen u) ∧ vc xs zH_68 n true d 68 18 ml r (tsi t u v.toNatClampNeg w) Q) := by
  rw [vc_q (o := (32, 0, 0, 0, [])) (by decide +kernel)]; rfl
theorem v_68_18 (xs : Option (List Int32)) (n : Nat) (b : Bool) (d : Nat) (ml : List Value) (t : T) (Q : Option Value → T → Prop) (st : List Value) : vc xs zH_68 (n + 1) b d 68 18 ml st t Q = vgi ml 5 (fun v => vset ml 5 (.int (v + 1)) (fun l => vc xs zH_68 n true d 68 21 l st t Q)) := by
  rw [vc_q (o := (5, 1, 5, 0, [])) (by decide +kernel)]; rfl
theorem v_68_21 (xs : Option (List Int32)) (n : Nat) (b : Bool) (d : Nat) (ml : List Value) (t : T) (Q : Option Value → T → Prop) (st : List Value) : vc xs zH_68 (n + 1) b d 68 21 ml st t Q = vc xs zH_68 n true d 68 3 ml st t Q := by
  rw [vc_q (o := (22, 0, 3, 0, [])) (by decide +kernel)]; rfl
theorem v_68_24 (xs : Option (List Int32)) (n : Nat) (b : Bool) (d : Nat) (ml : List Value) (t : T) (Q : Option Value → T → Prop) (st : List Value) : vc xs zH_68 (n + 1) b d 68 24 ml st t Q = vga ml 0 (fun v => vc xs zH_68 n true d 68 25 ml (.ref v :: st) t Q) := by
  rw [vc_q (o := (2, 0, 0, 0, [])) (by decide +kernel)]; rfl
theorem v_68_25 (xs : Option (List Int32)) (n : Nat) (b : Bool) (d : Nat) (ml : List Value) (t : T) (Q : Option Value → T → Prop) (u : Nat) (r : List Value) : vc xs zH_68 (n + 1) b d 68 25 ml (.ref u :: r) t Q = (vtag u = 12 ∧ vc xs zH_68 n true d 68 28 ml (.ref (tref t u 27) :: r) t Q) := by
  rw [vc_q (o := (25, 0, 12, 27, [])) (by decide +kernel)]; rfl
theorem v_68_28 (xs : Option (List Int32)) (n : Nat) (b : Bool) (d : Nat) (ml : List Value) (t : T) (Q : Option Value → T → Prop) (st : List Value) : vc xs zH_68 (n + 1) b d 68 28 ml st t Q = vc xs zH_68 n true d 68 29 ml (.int 0 :: st) t Q := by
  rw [vc_q (o := (0, 0, 0, 0, [])) (by decide +kernel)]; rfl
theorem v_68_29 (xs : Option (List Int32)) (n : Nat) (b : Bool) (d : Nat) (ml : List Value) (t : T) (Q : Option Value → T → Prop) (st : List Value) : vc xs zH_68 (n + 1) b d 68 29 ml st t Q = vgi ml 3 (fun v => vc xs zH_68 n true d 68 30 ml (.int v :: st) t Q) := by
  rw [vc_q (o := (1, 0, 3, 0, [])) (by decide +kernel)]; rfl
theorem v_68_30 (xs : Option (List Int32)) (n : Nat) (b : Bool) (d : Nat) (ml : List Value) (t : T) (Q : Option Value → T → Prop) (w v : Int32) (u : Nat) (r : List Value) : vc xs zH_68 (n + 1) b d 68 30 ml (.int w :: .int v :: .ref u :: r) t Q = (vtag u = 100 ∧ vinb v (vlen u) ∧ vc xs zH_68 n true d 68 31 ml r (tsi t u v.toNatClampNeg w) Q) := by
  rw [vc_q (o := (32, 0, 0, 0, [])) (by decide +kernel)]; rfl
theorem v_68_31 (xs : Option (List Int32)) (n : Nat) (b : Bool) (d : Nat) (ml : List Value) (t : T) (Q : Option Value → T → Prop) (st : List Value) : vc xs zH_68 (n + 1) b d 68 31 ml st t Q = vga ml 0 (fun v => vc xs zH_68 n true d 68 32 ml (.ref v :: st) t Q) := by
  rw [vc_q (o := (2, 0, 0, 0, [])) (by decide +kernel)]; rfl
theorem v_68_32 (xs : Option (List Int32)) (n : Nat) (b : Bool) (d : Nat) (ml : List Value) (t : T) (Q : Option Value → T → Prop) (u : Nat) (r : List Value) : vc xs zH_68 (n + 1) b d 68 32 ml (.ref u :: r) t Q = (vtag u = 12 ∧ vc xs zH_68 n true d 68 35 ml (.ref (tref t u 27) :: r) t Q) := by
  rw [vc_q (o := (25, 0, 12, 27, [])) (by decide +kernel)]; rfl
theorem v_68_35 (xs : Option (List Int32)) (n : Nat) (b : Bool) (d : Nat) (ml : List Value) (t : T) (Q : Option Value → T → Prop) (st : List Value) : vc xs zH_68 (n + 1) b d 68 35 ml st t Q = vc xs zH_68 n true d 68 36 ml (.int 1 :: st) t Q := by
  rw [vc_q (o := (0, 1, 0, 0, [])) (by decide +kernel)]; rfl
theorem v_68_36 (xs : Option (List Int32)) (n : Nat) (b : Bool) (d : Nat) (ml : List Value) (t : T) (Q : Option Value → T → Prop) (st : List Value) : vc xs zH_68 (n + 1) b d 68 36 ml st t Q = vgi ml 4 (fun v => vc xs zH_68 n true d 68 38 ml (.int v :: st) t Q) := by
  rw [vc_q (o := (1, 0, 4, 1, [])) (by decide +kernel)]; rfl
theorem v_68_38 (xs : Option (List Int32)) (n : Nat) (b : Bool) (d : Nat) (ml : List Value) (t : T) (Q : Option Value → T → Prop) (w v : Int32) (u : Nat) (r : List Value) : vc xs zH_68 (n + 1) b d 68 38 ml (.int w :: .int v :: .ref u :: r) t Q = (vtag u = 100 ∧ vinb v (vlen u) ∧ vc xs zH_68 n true d 68 39 ml r (tsi t u v.toNatClampNeg w) Q) := by
  rw [vc_q (o := (32, 0, 0, 0, [])) (by decide +kernel)]; rfl
theorem v_68_39 (xs : Option (List Int32)) (n : Nat) (b : Bool) (d : Nat) (ml : List Value) (t : T) (Q : Option Value → T → Prop) (st : List Value) : vc xs zH_68 (n + 1) b d 68 39 ml st t Q = vga ml 0 (fun v => vc xs zH_68 n true d 68 40 ml (.ref v :: st) t Q) := by
  rw [vc_q (o := (2, 0, 0, 0, [])) (by decide +kernel)]; rfl
theorem v_68_40 (xs : Option (List Int32)) (n : Nat) (b : Bool) (d : Nat) (ml : List Value) (t : T) (Q : Option Value → T → Prop) (st : List Value) : vc xs zH_68 (n + 1) b d 68 40 ml st t Q = vgi ml 1 (fun v => vc xs zH_68 n true d 68 41 ml (.int v :: st) t Q) := by
  rw [vc_q (o := (1, 0, 1, 0, [])) (by decide +kernel)]; rfl
theorem v_68_41 (xs : Option (List Int32)) (n : Nat) (b : Bool) (d : Nat) (ml : List Value) (t : T) (Q : Option Value → T → Prop) (st : List Value) : vc xs zH_68 (n + 1) b d 68 41 ml st t Q = vgi ml 2 (fun v => vc xs zH_68 n true d 68 42 ml (.int v :: st) t Q) := by
  rw [vc_q (o := (1, 0, 2, 0, [])) (by decide +kernel)]; rfl
theorem v_68_42 (xs : Option (List Int32)) (n : Nat) (b : Bool) (d : Nat) (ml : List Value) (t : T) (Q : Option Value → T → Prop) (st : List Value) : vc xs zH_68 (n + 1) b d 68 42 ml st t Q = (st.all zc1 = true ∧ vtk 3 st [] (fun as rest => rest.length ≤ 8 ∧ vrc as 12 (twc d 65 as t (fun r t' => vc xs zH_68 n true d 68 45 ml (r.toList ++ rest) t' Q)))) := by
  rw [vc_q (o := (36, 0, 65, 2, [(0, 12)])) (by decide +kernel)]; rfl
theorem v_68_45 (xs : Option (List Int32)) (n : Nat) (b : Bool) (d : Nat) (ml : List Value) (t : T) (Q : Option Value → T → Prop) (v : Int32) : vc xs zH_68 (n + 1) b d 68 45 ml [.int v] t Q = Q (some (.int v)) t := by
  rw [vc_q (o := (40, 0, 0, 0, [])) (by decide +kernel)]; rfl
def zH_69 : List Nat := [52, 80]
theorem v_69_0 (xs : Option (List Int32)) (n : Nat) (b : Bool) (d : Nat) (ml : List Value) (t : T) (Q : Option Value → T → Prop) (st : List Value) : vc xs zH_69 (n + 1) b d 69 0 ml st t Q = vgi ml 1 (fun v => vc xs zH_69 n true d 69 1 ml (.int v :: st) t Q) := by
  rw [vc_q (o := (1, 0, 1, 0, [])) (by decide +kernel)]; rfl
theorem v_69_1 (xs : Option (List Int32)) (n : Nat) (b : Bool) (d : Nat) (ml : List Value) (t : T) (Q : Option Value → T → Prop) (st : List Value) : vc xs zH_69 (n + 1) b d 69 1 ml st t Q = (st.all zc1 = true ∧ vtk 1 st [] (fun as rest => rest.length ≤ 8 ∧ twc d 47 as t (fun r t' => vc xs zH_69 n true d 69 4 ml (r.toList ++ rest) t' Q))) := by
  rw [vc_q (o := (37, 0, 47, 1, [])) (by decide +kernel)]; rfl
theorem v_69_4 (xs : Option (List Int32)) (n : Nat) (b : Bool) (d : Nat) (ml : List Value) (t : T) (Q : Option Value → T → Prop) (u : Int32) (r : List Value) : vc xs zH_69 (n + 1) b d 69 4 ml (.int u :: r) t Q = (if u = 0 then vc xs zH_69 n true d 69 25 ml r t Q else vc xs zH_69 n true d 69 7 ml r t Q) := by
  rw [vc_q (o := (21, 0, 25, 0, [])) (by decide +kernel)]; rfl
theorem v_69_7 (xs : Option (List Int32)) (n : Nat) (b : Bool) (d : Nat) (ml : List Value) (t : T) (Q : Option Value → T → Prop) (st : List Value) : vc xs zH_69 (n + 1) b d 69 7 ml st t Q = vga ml 0 (fun v => vc xs zH_69 n true d 69 8 ml (.ref v :: st) t Q) := by
  rw [vc_q (o := (2, 0, 0, 0, [])) (by decide +kernel)]; rfl
theorem v_69_8 (xs : Option (List Int32)) (n : Nat) (b : Bool) (d : Nat) (ml : List Value) (t : T) (Q : Option Value → T → Prop) (st : List Value) : vc xs zH_69 (n + 1) b d 69 8 ml st t Q = vgi ml 2 (fun v => vc xs zH_69 n true d 69 9 ml (.int v :: st) t Q) := by
  rw [vc_q (o := (1, 0, 2, 0, [])) (by decide +kernel)]; rfl
theorem v_69_9 (xs : Option (List Int32)) (n : Nat) (b : Bool) (d : Nat) (ml : List Value) (t : T) (Q : Option Value → T → Prop) (st : List Value) : vc xs zH_69 (n + 1) b d 69 9 ml st t Q = (st.all zc1 = true ∧ vtk 2 st [] (fun as rest => rest.length ≤ 8 ∧ vrc as 12 (twc d 55 as t (fun r t' => vc xs zH_69 n true d 69 12 ml (r.toList ++ rest) t' Q)))) := by
  rw [vc_q (o := (36, 0, 55, 1, [(0, 12)])) (by decide +kernel)]; rfl
theorem v_69_12 (xs : Option (List Int32)) (n : Nat) (b : Bool) (d : Nat) (ml : List Value) (t : T) (Q : Option Value → T → Prop) (u : Int32) (r : List Value) : vc xs zH_69 (n + 1) b d 69 12 ml (.int u :: r) t Q = (if u = 0 then vc xs zH_69 n true d 69 25 ml r t Q else vc xs zH_69 n true d 69 15 ml r t Q) := by
  rw [vc_q (o := (21, 0, 25, 0, [])) (by decide +kernel)]; rfl
theorem v_69_15 (xs : Option (List Int32)) (n : Nat) (b : Bool) (d : Nat) (ml : List Value) (t : T) (Q : Option Value → T → Prop) (st : List Value) : vc xs zH_69 (n + 1) b d 69 15 ml st t Q = vga ml 0 (fun v => vc xs zH_69 n true d 69 16 ml (.ref v :: st) t Q) := by
  rw [vc_q (o := (2, 0, 0, 0, [])) (by decide +kernel)]; rfl
theorem v_69_16 (xs : Option (List Int32)) (n : Nat) (b : Bool) (d : Nat) (ml : List Value) (t : T) (Q : Option Value → T → Prop) (u : Nat) (r : List Value) : vc xs zH_69 (n + 1) b d 69 16 ml (.ref u :: r) t Q = (vtag u = 12 ∧ vc xs zH_69 n true d 69 19 ml (.ref (tref t u 8) :: r) t Q) := by
  rw [vc_q (o := (25, 0, 12, 8, [])) (by decide +kernel)]; rfl
theorem v_69_19 (xs : Option (List Int32)) (n : Nat) (b : Bool) (d : Nat) (ml : List Value) (t : T) (Q : Option Value → T → Prop) (st : List Value) : vc xs zH_69 (n + 1) b d 69 19 ml st t Q = vgi ml 2 (fun v => vc xs zH_69 n true d 69 20 ml (.int v :: st) t Q) := by
  rw [vc_q (o := (1, 0, 2, 0, [])) (by decide +kernel)]; rfl
theorem v_69_20 (xs : Option (List Int32)) (n : Nat) (b : Bool) (d : Nat) (ml : List Value) (t : T) (Q : Option Value → T → Prop) (v : Int32) (u : Nat) (r : List Value) : vc xs zH_69 (n + 1) b d 69 20 ml (.int v :: .ref u :: r) t Q = (vtag u = 100 ∧ vinb v (vlen u) ∧ vc xs zH_69 n true d 69 21 ml (.int (t.1 u v.toNatClampNeg) :: r) t Q) := by
  rw [vc_q (o := (29, 0, 0, 0, [])) (by decide +kernel)]; rfl
theorem v_69_21 (xs : Option (List Int32)) (n : Nat) (b : Bool) (d : Nat) (ml : List Value) (t : T) (Q : Option Value → T → Prop) (st : List Value) : vc xs zH_69 (n + 1) b d 69 21 ml st t Q = vc xs zH_69 n true d 69 22 ml (.int 3 :: st) t Q := by
  rw [vc_q (o := (0, 3, 0, 0, [])) (by decide +kernel)]; rfl
theorem v_69_22 (xs : Option (List Int32)) (n : Nat) (b : Bool) (d : Nat) (ml : List Value) (t : T) (Q : Option Value → T → Prop) (u v : Int32) (r : List Value) : vc xs zH_69 (n + 1) b d 69 22 ml (.int v :: .int u :: r) t Q = (if v < u then vc xs zH_69 n true d 69 25 ml r t Q else vc xs zH_69 n true d 69 27 ml r t Q) := by
  rw [vc_q (o := (20, 0, 27, 5, [])) (by decide +kernel)]; rfl
theorem v_69_25 (xs : Option (List Int32)) (n : Nat) (b : Bool) (d : Nat) (ml : List Value) (t : T) (Q : Option Value → T → Prop) (st : List Value) : vc xs zH_69 (n + 1) b d 69 25 ml st t Q = vc xs zH_69 n true d 69 26 ml (.int (-1) :: st) t Q := by
  rw [vc_q (o := (0, (-1), 0, 0, [])) (by decide +kernel)]; rfl
theorem v_69_26 (xs : Option (List Int32)) (n : Nat) (b : Bool) (d : Nat) (ml : List Value) (t : T) (Q : Option Value → T → Prop) (v : Int32) : vc xs zH_69 (n + 1) b d 69 26 ml [.int v] t Q = Q (some (.int v)) t := by
  rw [vc_q (o := (40, 0, 0, 0, [])) (by decide +kernel)]; rfl
theorem v_69_27 (xs : Option (List Int32)) (n : Nat) (b : Bool) (d : Nat) (ml : List Value) (t : T) (Q : Option Value → T → Prop) (st : List Value) : vc xs zH_69 (n + 1) b d 69 27 ml st t Q = vga ml 0 (fun v => vc xs zH_69 n true d 69 28 ml (.ref v :: st) t Q) := by
  rw [vc_q (o := (2, 0, 0, 0, [])) (by decide +kernel)]; rfl
theorem v_69_28 (xs : Option (List Int32)) (n : Nat) (b : Bool) (d : Nat) (ml : List Value) (t : T) (Q : Option Value → T → Prop) (u : Nat) (r : List Value) : vc xs zH_69 (n + 1) b d 69 28 ml (.ref u :: r) t Q = (vtag u = 12 ∧ vc xs zH_69 n true d 69 31 ml (.ref (tref t u 8) :: r) t Q) := by
  rw [vc_q (o := (25, 0, 12, 8, [])) (by decide +kernel)]; rfl
theorem v_69_31 (xs : Option (List Int32)) (n : Nat) (b : Bool) (d : Nat) (ml : List Value) (t : T) (Q : Option Value → T → Prop) (st : List Value) : vc xs zH_69 (n + 1) b d 69 31 ml st t Q = vgi ml 2 (fun v => vc xs zH_69 n true d 69 32 ml (.int v :: st) t Q) := by
  rw [vc_q (o := (1, 0, 2, 0, [])) (by decide +kernel)]; rfl
theorem v_69_32 (xs : Option (List Int32)) (n : Nat) (b : Bool) (d : Nat) (ml : List Value) (t : T) (Q : Option Value → T → Prop) (v : Int32) (u : Nat) (r : List Value) : vc xs zH_69 (n + 1) b d 69 32 ml (.int v :: .ref u :: r) t Q = (vtag u = 100 ∧ vinb v (vlen u) ∧ vc xs zH_69 n true d 69 33 ml (.int (t.1 u v.toNatClampNeg) :: r) t Q) := by
  rw [vc_q (o := (29, 0, 0, 0, [])) (by decide +kernel)]; rfl
theorem v_69_33 (xs : Option (List Int32)) (n : Nat) (b : Bool) (d : Nat) (ml : List Value) (t : T) (Q : Option Value → T → Prop) (st : List Value) : vc xs zH_69 (n + 1) b d 69 33 ml st t Q = vc xs zH_69 n true d 69 34 ml (.int 1 :: st) t Q := by
  rw [vc_q (o := (0, 1, 0, 0, [])) (by decide +kernel)]; rfl
theorem v_69_34 (xs : Option (List Int32)) (n : Nat) (b : Bool) (d : Nat) (ml : List Value) (t : T) (Q : Option Value → T → Prop) (u v : Int32) (r : List Value) : vc xs zH_69 (n + 1) b d 69 34 ml (.int v :: .int u :: r) t Q = vc xs zH_69 n true d 69 35 ml (.int (u &&& v) :: r) t Q := by
  rw [vc_q (o := (9, 0, 0, 0, [])) (by decide +kernel)]; rfl
theorem v_69_35 (xs : Option (List Int32)) (n : Nat) (b : Bool) (d : Nat) (ml : List Value) (t : T) (Q : Option Value → T → Prop) (u : Int32) (r : List Value) : vc xs zH_69 (n + 1) b d 69 35 ml (.int u :: r) t Q = (if u = 0 then vc xs zH_69 n true d 69 47 ml r t Q else vc xs zH_69 n true d 69 38 ml r t Q) := by
  rw [vc_q (o := (21, 0, 47, 0, [])) (by decide +kernel)]; rfl
theorem v_69_38 (xs : Option (List Int32)) (n : Nat) (b : Bool) (d : Nat) (ml : List Value) (t : T) (Q : Option Value → T → Prop) (st : List Value) : vc xs zH_69 (n + 1) b d 69 38 ml st t Q = vga ml 0 (fun v => vc xs zH_69 n true d 69 39 ml (.ref v :: st) t Q) := by
  rw [vc_q (o := (2, 0, 0, 0, [])) (by decide +kernel)]; rfl
theorem v_69_39 (xs : Option (List Int32)) (n : Nat) (b : Bool) (d : Nat) (ml : List Value) (t : T) (Q : Option Value → T → Prop) (st : List Value) : vc xs zH_69 (n + 1) b d 69 39 ml st t Q = vgi ml 1 (fun v => vc xs zH_69 n true d 69 40 ml (.int v :: st) t Q) := by
  rw [vc_q (o := (1, 0, 1, 0, [])) (by decide +kernel)]; rfl
theorem v_69_40 (xs : Option (List Int32)) (n : Nat) (b : Bool) (d : Nat) (ml : List Value) (t : T) (Q : Option Value → T → Prop) (st : List Value) : vc xs zH_69 (n + 1) b d 69 40 ml st t Q = vgi ml 3 (fun v => vc xs zH_69 n true d 69 41 ml (.int v :: st) t Q) := by
  rw [vc_q (o := (1, 0, 3, 0, [])) (by decide +kernel)]; rfl
theorem v_69_41 (xs : Option (List Int32)) (n : Nat) (b : Bool) (d : Nat) (ml : List Value) (t : T) (Q : Option Value → T → Prop) (st : List Value) : vc xs zH_69 (n + 1) b d 69 41 ml st t Q = (st.all zc1 = true ∧ vtk 3 st [] (fun as rest => rest.length ≤ 8 ∧ vrc as 12 (twc d 48 as t (fun r t' => vc xs zH_69 n true d 69 44 ml (r.toList ++ rest) t' Q)))) := by
  rw [vc_q (o := (36, 0, 48, 2, [(0, 12)])) (by decide +kernel)]; rfl
theorem v_69_44 (xs : Option (List Int32)) (n : Nat) (b : Bool) (d : Nat) (ml : List Value) (t : T) (Q : Option Value → T → Prop) (u : Int32) (r : List Value) : vc xs zH_69 (n + 1) b d 69 44 ml (.int u :: r) t Q = (if u = 0 then vc xs zH_69 n true d 69 51 ml r t Q else vc xs zH_69 n true d 69 47 ml r t Q) := by
  rw [vc_q (o := (21, 0, 51, 0, [])) (by decide +kernel)]; rfl
theorem v_69_47 (xs : Option (List Int32)) (n : Nat) (b : Bool) (d : Nat) (ml : List Value) (t : T) (Q : Option Value → T → Prop) (st : List Value) : vc xs zH_69 (n + 1) b d 69 47 ml st t Q = vc xs zH_69 n true d 69 48 ml (.int 1 :: st) t Q := by
  rw [vc_q (o := (0, 1, 0, 0, [])) (by decide +kernel)]; rfl
theorem v_69_48 (xs : Option (List Int32)) (n : Nat) (b : Bool) (d : Nat) (ml : List Value) (t : T) (Q : Option Value → T → Prop) (st : List Value) : vc xs zH_69 (n + 1) b d 69 48 ml st t Q = vc xs zH_69 n true d 69 52 ml st t Q := by
  rw [vc_q (o := (22, 0, 52, 0, [])) (by decide +kernel)]; rfl
theorem v_69_51 (xs : Option (List Int32)) (n : Nat) (b : Bool) (d : Nat) (ml : List Value) (t : T) (Q : Option Value → T → Prop) (st : List Value) : vc xs zH_69 (n + 1) b d 69 51 ml st t Q = vc xs zH_69 n true d 69 52 ml (.int 0 :: st) t Q := by
  rw [vc_q (o := (0, 0, 0, 0, [])) (by decide +kernel)]; rfl
theorem v_69_52 (xs : Option (List Int32)) (n : Nat) (d : Nat) (ml : List Value) (t : T) (Q : Option Value → T → Prop) (v : Int32) (r : List Value) : vc xs zH_69 (n + 1) false d 69 52 ml (.int v :: r) t Q = vset ml 5 (.int v) (fun l => vc xs zH_69 n true d 69 54 l r t Q) := by
  rw [vc_q (o := (3, 0, 5, 1, [])) (by decide +kernel)]; rfl
theorem h_69_52 (xs : Option (List Int32)) (n d : Nat) (ml st : List Value) (t : T) (Q : Option Value → T → Prop) : vc xs zH_69 (n + 1) true d 69 52 ml st t Q = twp xs d 69 52 ml st t Q := id rfl
theorem v_69_54 (xs : Option (List Int32)) (n : Nat) (b : Bool) (d : Nat) (ml : List Value) (t : T) (Q : Option Value → T → Prop) (st : List Value) : vc xs zH_69 (n + 1) b d 69 54 ml st t Q = vga ml 0 (fun v => vc xs zH_69 n true d 69 55 ml (.ref v :: st) t Q) := by
  rw [vc_q (o := (2, 0, 0, 0, [])) (by decide +kernel)]; rfl
theorem v_69_55 (xs : Option (List Int32)) (n : Nat) (b : Bool) (d : Nat) (ml : List Value) (t : T) (Q : Option Value → T → Prop) (u : Nat) (r : List Value) : vc xs zH_69 (n + 1) b d 69 55 ml (.ref u :: r) t Q = (vtag u = 12 ∧ vc xs zH_69 n true d 69 58 ml (.ref (tref t u 8) :: r) t Q) := by
  rw [vc_q (o := (25, 0, 12, 8, [])) (by decide +kernel)]; rfl
theorem v_69_58 (xs : Option (List Int32)) (n : Nat) (b : Bool) (d : Nat) (ml : List Value) (t : T) (Q : Option Value → T → Prop) (st : List Value) : vc xs zH_69 (n + 1) b d 69 58 ml st t Q = vgi ml 2 (fun v => vc xs zH_69 n true d 69 59 ml (.int v :: st) t Q) := by
  rw [vc_q (o := (1, 0, 2, 0, [])) (by decide +kernel)]; rfl
theorem v_69_59 (xs : Option (List Int32)) (n : Nat) (b : Bool) (d : Nat) (ml : List Value) (t : T) (Q : Option Value → T → Prop) (v : Int32) (u : Nat) (r : List Value) : vc xs zH_69 (n + 1) b d 69 59 ml (.int v :: .ref u :: r) t Q = (vtag u = 100 ∧ vinb v (vlen u) ∧ vc xs zH_69 n true d 69 60 ml (.int (t.1 u v.toNatClampNeg) :: r) t Q) := by
  rw [vc_q (o := (29, 0, 0, 0, [])) (by decide +kernel)]; rfl
theorem v_69_60 (xs : Option (List Int32)) (n : Nat) (b : Bool) (d : Nat) (ml : List Value) (t : T) (Q : Option Value → T → Prop) (st : List Value) : vc xs zH_69 (n + 1) b d 69 60 ml st t Q = vc xs zH_69 n true d 69 61 ml (.int 2 :: st) t Q := by
  rw [vc_q (o := (0, 2, 0, 0, [])) (by decide +kernel)]; rfl
theorem v_69_61 (xs : Option (List Int32)) (n : Nat) (b : Bool) (d : Nat) (ml : List Value) (t : T) (Q : Option Value → T → Prop) (u v : Int32) (r : List Value) : vc xs zH_69 (n + 1) b d 69 61 ml (.int v :: .int u :: r) t Q = vc xs zH_69 n true d 69 62 ml (.int (u &&& v) :: r) t Q := by
  rw [vc_q (o := (9, 0, 0, 0, [])) (by decide +kernel)]; rfl
theorem v_69_62 (xs : Option (List Int32)) (n : Nat) (b : Bool) (d : Nat) (ml : List Value) (t : T) (Q : Option Value → T → Prop) (u : Int32) (r : List Value) : vc xs zH_69 (n + 1) b d 69 62 ml (.int u :: r) t Q = (if u = 0 then vc xs zH_69 n true d 69 75 ml r t Q else vc xs zH_69 n true d 69 65 ml r t Q) := by
  rw [vc_q (o := (21, 0, 75, 0, [])) (by decide +kernel)]; rfl
theorem v_69_65 (xs : Option (List Int32)) (n : Nat) (b : Bool) (d : Nat) (ml : List Value) (t : T) (Q : Option Value → T → Prop) (st : List Value) : vc xs zH_69 (n + 1) b d 69 65 ml st t Q = vga ml 0 (fun v => vc xs zH_69 n true d 69 66 ml (.ref v :: st) t Q) := by
  rw [vc_q (o := (2, 0, 0, 0, [])) (by decide +kernel)]; rfl
theorem v_69_66 (xs : Option (List Int32)) (n : Nat) (b : Bool) (d : Nat) (ml : List Value) (t : T) (Q : Option Value → T → Prop) (st : List Value) : vc xs zH_69 (n + 1) b d 69 66 ml st t Q = vgi ml 1 (fun v => vc xs zH_69 n true d 69 67 ml (.int v :: st) t Q) := by
  rw [vc_q (o := (1, 0, 1, 0, [])) (by decide +kernel)]; rfl
theorem v_69_67 (xs : Option (List Int32)) (n : Nat) (b : Bool) (d : Nat) (ml : List Value) (t : T) (Q : Option Value → T → Prop) (st : List Value) : vc xs zH_69 (n + 1) b d 69 67 ml st t Q = vgi ml 4 (fun v => vc xs zH_69 n true d 69 69 ml (.int v :: st) t Q) := by
  rw [vc_q (o := (1, 0, 4, 1, [])) (by decide +kernel)]; rfl
theorem v_69_69 (xs : Option (List Int32)) (n : Nat) (b : Bool) (d : Nat) (ml : List Value) (t : T) (Q : Option Value → T → Prop) (st : List Value) : vc xs zH_69 (n + 1) b d 69 69 ml st t Q = (st.all zc1 = true ∧ vtk 3 st [] (fun as rest => rest.length ≤ 8 ∧ vrc as 12 (twc d 48 as t (fun r t' => vc xs zH_69 n true d 69 72 ml (r.toList ++ rest) t' Q)))) := by
  rw [vc_q (o := (36, 0, 48, 2, [(0, 12)])) (by decide +kernel)]; rfl
theorem v_69_72 (xs : Option (List Int32)) (n : Nat) (b : Bool) (d : Nat) (ml : List Value) (t : T) (Q : Option Value → T → Prop) (u : Int32) (r : List Value) : vc xs zH_69 (n + 1) b d 69 72 ml (.int u :: r) t Q = (if u = 0 then vc xs zH_69 n true d 69 79 ml r t Q else vc xs zH_69 n true d 69 75 ml r t Q) := by
  rw [vc_q (o := (21, 0, 79, 0, [])) (by decide +kernel)]; rfl
theorem v_69_75 (xs : Option (List Int32)) (n : Nat) (b : Bool) (d : Nat) (ml : List Value) (t : T) (Q : Option Value → T → Prop) (st : List Value) : vc xs zH_69 (n + 1) b d 69 75 ml st t Q = vc xs zH_69 n true d 69 76 ml (.int 1 :: st) t Q := by
  rw [vc_q (o := (0, 1, 0, 0, [])) (by decide +kernel)]; rfl
theorem v_69_76 (xs : Option (List Int32)) (n : Nat) (b : Bool) (d : Nat) (ml : List Value) (t : T) (Q : Option Value → T → Prop) (st : List Value) : vc xs zH_69 (n + 1) b d 69 76 ml st t Q = vc xs zH_69 n true d 69 80 ml st t Q := by
  rw [vc_q (o := (22, 0, 80, 0, [])) (by decide +kernel)]; rfl
theorem v_69_79 (xs : Option (List Int32)) (n : Nat) (b : Bool) (d : Nat) (ml : List Value) (t : T) (Q : Option Value → T → Prop) (st : List Value) : vc xs zH_69 (n + 1) b d 69 79 ml st t Q = vc xs zH_69 n true d 69 80 ml (.int 0 :: st) t Q := by
  rw [vc_q (o := (0, 0, 0, 0, [])) (by decide +kernel)]; rfl
theorem v_69_80 (xs : Option (List Int32)) (n : Nat) (d : Nat) (ml : List Value) (t : T) (Q : Option Value → T → Prop) (v : Int32) (r : List Value) : vc xs zH_69 (n + 1) false d 69 80 ml (.int v :: r) t Q = vset ml 6 (.int v) (fun l => vc xs zH_69 n true d 69 82 l r t Q) := by
  rw [vc_q (o := (3, 0, 6, 1, [])) (by decide +kernel)]; rfl
theorem h_69_80 (xs : Option (List Int32)) (n d : Nat) (ml st : List Value) (t : T) (Q : Option Value → T → Prop) : vc xs zH_69 (n + 1) true d 69 80 ml st t Q = twp xs d 69 80 ml st t Q := id rfl
theorem v_69_82 (xs : Option (List Int32)) (n : Nat) (b : Bool) (d : Nat) (ml : List Value) (t : T) (Q : Option Value → T → Prop) (st : List Value) : vc xs zH_69 (n + 1) b d 69 82 ml st t Q = vgi ml 5 (fun v => vc xs zH_69 n true d 69 84 ml (.int v :: st) t Q) := by
  rw [vc_q (o := (1, 0, 5, 1, [])) (by decide +kernel)]; rfl
theorem v_69_84 (xs : Option (List Int32)) (n : Nat) (b : Bool) (d : Nat) (ml : List Value) (t : T) (Q : Option Value → T → Prop) (u : Int32) (r : List Value) : vc xs zH_69 (n + 1) b d 69 84 ml (.int u :: r) t Q = (if u = 0 then vc xs zH_69 n true d 69 134 ml r t Q else vc xs zH_69 n true d 69 87 ml r t Q) := by
  rw [vc_q (o := (21, 0, 134, 0, [])) (by decide +kernel)]; rfl
theorem v_69_87 (xs : Option (List Int32)) (n : Nat) (b : Bool) (d : Nat) (ml : List Value) (t : T) (Q : Option Value → T → Prop) (st : List Value) : vc xs zH_69 (n + 1) b d 69 87 ml st t Q = vgi ml 6 (fun v => vc xs zH_69 n true d 69 89 ml (.int v :: st) t Q) := by
  rw [vc_q (o := (1, 0, 6, 1, [])) (by decide +kernel)]; rfl
theorem v_69_89 (xs : Option (List Int32)) (n : Nat) (b : Bool) (d : Nat) (ml : List Value) (t : T) (Q : Option Value → T → Prop) (u : Int32) (r : List Value) : vc xs zH_69 (n + 1) b d 69 89 ml (.int u :: r) t Q = (if u = 0 then vc xs zH_69 n true d 69 134 ml r t Q else vc xs zH_69 n true d 69 92 ml r t Q) := by
  rw [vc_q (o := (21, 0, 134, 0, [])) (by decide +kernel)]; rfl
theorem v_69_92 (xs : Option (List Int32)) (n : Nat) (b : Bool) (d : Nat) (ml : List Value) (t : T) (Q : Option Value → T → Prop) (st : List Value) : vc xs zH_69 (n + 1) b d 69 92 ml st t Q = vga ml 0 (fun v => vc xs zH_69 n true d 69 93 ml (.ref v :: st) t Q) := by
  rw [vc_q (o := (2, 0, 0, 0, [])) (by decide +kernel)]; rfl
theorem v_69_93 (xs : Option (List Int32)) (n : Nat) (b : Bool) (d : Nat) (ml : List Value) (t : T) (Q : Option Value → T → Prop) (st : List Value) : vc xs zH_69 (n + 1) b d 69 93 ml st t Q = vgi ml 1 (fun v => vc xs zH_69 n true d 69 94 ml (.int v :: st) t Q) := by
  rw [vc_q (o := (1, 0, 1, 0, [])) (by decide +kernel)]; rfl
theorem v_69_94 (xs : Option (List Int32)) (n : Nat) (b : Bool) (d : Nat) (ml : List Value) (t : T) (Q : Option Value → T → Prop) (st : List Value) : vc xs zH_69 (n + 1) b d 69 94 ml st t Q = vgi ml 2 (fun v => vc xs zH_69 n true d 69 95 ml (.int v :: st) t Q) := by
  rw [vc_q (o := (1, 0, 2, 0, [])) (by decide +kernel)]; rfl
theorem v_69_95 (xs : Option (List Int32)) (n : Nat) (b : Bool) (d : Nat) (ml : List Value) (t : T) (Q : Option Value → T → Prop) (st : List Value) : vc xs zH_69 (n + 1) b d 69 95 ml st t Q = vga ml 0 (fun v => vc xs zH_69 n true d 69 96 ml (.ref v :: st) t Q) := by
  rw [vc_q (o := (2, 0, 0, 0, [])) (by decide +kernel)]; rfl
theorem v_69_96 (xs : Option (List Int32)) (n : Nat) (b : Bool) (d : Nat) (ml : List Value) (t : T) (Q : Option Value → T → Prop) (u : Nat) (r : List Value) : vc xs zH_69 (n + 1) b d 69 96 ml (.ref u :: r) t Q = (vtag u = 12 ∧ vc xs zH_69 n true d 69 99 ml (.ref (tref t u 8) :: r) t Q) := by
  rw [vc_q (o := (25, 0, 12, 8, [])) (by decide +kernel)]; rfl
theorem v_69_99 (xs : Option (List Int32)) (n : Nat) (b : Bool) (d : Nat) (ml : List Value) (t : T) (Q : Option Value → T → Prop) (st : List Value) : vc xs zH_69 (n + 1) b d 69 99 ml st t Q = vgi ml 2 (fun v => vc xs zH_69 n true d 69 100 ml (.int v :: st) t Q) := by
  rw [vc_q (o := (1, 0, 2, 0, [])) (by decide +kernel)]; rfl
theorem v_69_100 (xs : Option (List Int32)) (n : Nat) (b : Bool) (d : Nat) (ml : List Value) (t : T) (Q : Option Value → T → Prop) (v : Int32) (u : Nat) (r : List Value) : vc xs zH_69 (n + 1) b d 69 100 ml (.int v :: .ref u :: r) t Q = (vtag u = 100 ∧ vinb v (vlen u) ∧ vc xs zH_69 n true d 69 101 ml (.int (t.1 u v.toNatClampNeg) :: r) t Q) := by
  rw [vc_q (o := (29, 0, 0, 0, [])) (by decide +kernel)]; rfl
theorem v_69_101 (xs : Option (List Int32)) (n : Nat) (b : Bool) (d : Nat) (ml : List Value) (t : T) (Q : Option Value → T → Prop) (st : List Value) : vc xs zH_69 (n + 1) b d 69 101 ml st t Q = vc xs zH_69 n true d 69 102 ml (.int 1 :: st) t Q := by
  rw [vc_q (o := (0, 1, 0, 0, [])) (by decide +kernel)]; rfl
theorem v_69_102 (xs : Option (List Int32)) (n : Nat) (b : Bool) (d : Nat) (ml : List Value) (t : T) (Q : Option Value → T → Prop) (u v : Int32) (r : List Value) : vc xs zH_69 (n + 1) b d 69 102 ml (.int v :: .int u :: r) t Q = vc xs zH_69 n true d 69 103 ml (.int (u &&& v) :: r) t Q := by
  rw [vc_q (o := (9, 0, 0, 0, [])) (by decide +kernel)]; rfl
theorem v_69_103 (xs : Option (List Int32)) (n : Nat) (b : Bool) (d : Nat) (ml : List Value) (t : T) (Q : Option Value → T → Prop) (u : Int32) (r : List Value) : vc xs zH_69 (n + 1) b d 69 103 ml (.int u :: r) t Q = (if u = 0 then vc xs zH_69 n true d 69 106 ml r t Q else vc xs zH_69 n true d 69 110 ml r t Q) := by
  rw [vc_q (o := (21, 0, 110, 1, [])) (by decide +kernel)]; rfl
theorem v_69_106 (xs : Option (List Int32)) (n : Nat) (b : Bool) (d : Nat) (ml : List Value) (t : T) (Q : Option Value → T → Prop) (st : List Value) : vc xs zH_69 (n + 1) b d 69 106 ml st t Q = vc xs zH_69 n true d 69 107 ml (.int 0 :: st) t Q := by
  rw [vc_q (o := (0, 0, 0, 0, [])) (by decide +kernel)]; rfl
theorem v_69_107 (xs : Option (List Int32)) (n : Nat) (b : Bool) (d : Nat) (ml : List Value) (t : T) (Q : Option Value → T → Prop) (st : List Value) : vc xs zH_69 (n + 1) b d 69 107 ml st t Q = vc xs zH_69 n true d 69 111 ml st t Q := by
  rw [vc_q (o := (22, 0, 111, 0, [])) (by decide +kernel)]; rfl
theorem v_69_110 (xs : Option (List Int32)) (n : Nat) (b : Bool) (d : Nat) (ml : List Value) (t : T) (Q : Option Value → T → Prop) (st : List Value) : vc xs zH_69 (n + 1) b d 69 110 ml st t Q = vgi ml 3 (fun v => vc xs zH_69 n true d 69 111 ml (.int v :: st) t Q) := by
  rw [vc_q (o := (1, 0, 3, 0, [])) (by decide +kernel)]; rfl
theorem v_69_111 (xs : Option (List Int32)) (n : Nat) (b : Bool) (d : Nat) (ml : List Value) (t : T) (Q : Option Value → T → Prop) (st : List Value) : vc xs zH_69 (n + 1) b d 69 111 ml st t Q = vga ml 0 (fun v => vc xs zH_69 n true d 69 112 ml (.ref v :: st) t Q) := by
  rw [vc_q (o := (2, 0, 0, 0, [])) (by decide +kernel)]; rfl
theorem v_69_112 (xs : Option (List Int32)) (n : Nat) (b : Bool) (d : Nat) (ml : List Value) (t : T) (Q : Option Value → T → Prop) (u : Nat) (r : List Value) : vc xs zH_69 (n + 1) b d 69 112 ml (.ref u :: r) t Q = (vtag u = 12 ∧ vc xs zH_69 n true d 69 115 ml (.ref (tref t u 8) :: r) t Q) := by
  rw [vc_q (o := (25, 0, 12, 8, [])) (by decide +kernel)]; rfl
theorem v_69_115 (xs : Option (List Int32)) (n : Nat) (b : Bool) (d : Nat) (ml : List Value) (t : T) (Q : Option Value → T → Prop) (st : List Value) : vc xs zH_69 (n + 1) b d 69 115 ml st t Q = vgi ml 2 (fun v => vc xs zH_69 n true d 69 116 ml (.int v :: st) t Q) := by
  rw [vc_q (o := (1, 0, 2, 0, [])) (by decide +kernel)]; rfl
theorem v_69_116 (xs : Option (List Int32)) (n : Nat) (b : Bool) (d : Nat) (ml : List Value) (t : T) (Q : Option Value → T → Prop) (v : Int32) (u : Nat) (r : List Value) : vc xs zH_69 (n + 1) b d 69 116 ml (.int v :: .ref u :: r) t Q = (vtag u = 100 ∧ vinb v (vlen u) ∧ vc xs zH_69 n true d 69 117 ml (.int (t.1 u v.toNatClampNeg) :: r) t Q) := by
  rw [vc_q (o := (29, 0, 0, 0, [])) (by decide +kernel)]; rfl
theorem v_69_117 (xs : Option (List Int32)) (n : Nat) (b : Bool) (d : Nat) (ml : List Value) (t : T) (Q : Option Value → T → Prop) (st : List Value) : vc xs zH_69 (n + 1) b d 69 117 ml st t Q = vc xs zH_69 n true d 69 118 ml (.int 2 :: st) t Q := by
  rw [vc_q (o := (0, 2, 0, 0, [])) (by decide +kernel)]; rfl
theorem v_69_118 (xs : Option (List Int32)) (n : Nat) (b : Bool) (d : Nat) (ml : List Value) (t : T) (Q : Option Value → T → Prop) (u v : Int32) (r : List Value) : vc xs zH_69 (n + 1) b d 69 118 ml (.int v :: .int u :: r) t Q = vc xs zH_69 n true d 69 119 ml (.int (u &&& v) :: r) t Q := by
  rw [vc_q (o := (9, 0, 0, 0, [])) (by decide +kernel)]; rfl
theorem v_69_119 (xs : Option (List Int32)) (n : Nat) (b : Bool) (d : Nat) (ml : List Value) (t : T) (Q : Option Value → T → Prop) (u : Int32) (r : List Value) : vc xs zH_69 (n + 1) b d 69 119 ml (.int u :: r) t Q = (if u = 0 then vc xs zH_69 n true d 69 122 ml r t Q else vc xs zH_69 n true d 69 126 ml r t Q) := by
  rw [vc_q (o := (21, 0, 126, 1, [])) (by decide +kernel)]; rfl
theorem v_69_122 (xs : Option (List Int32)) (n : Nat) (b : Bool) (d : Nat) (ml : List Value) (t : T) (Q : Option Value → T → Prop) (st : List Value) : vc xs zH_69 (n + 1) b d 69 122 ml st t Q = vc xs zH_69 n true d 69 123 ml (.int 0 :: st) t Q := by
  rw [vc_q (o := (0, 0, 0, 0, [])) (by decide +kernel)]; rfl
theorem v_69_123 (xs : Option (List Int32)) (n : Nat) (b : Bool) (d : Nat) (ml : List Value) (t : T) (Q : Option Value → T → Prop) (st : List Value) : vc xs zH_69 (n + 1) b d 69 123 ml st t Q = vc xs zH_69 n true d 69 128 ml st t Q := by
  rw [vc_q (o := (22, 0, 128, 0, [])) (by decide +kernel)]; rfl
theorem v_69_126 (xs : Option (List Int32)) (n : Nat) (b : Bool) (d : Nat) (ml : List Value) (t : T) (Q : Option Value → T → Prop) (st : List Value) : vc xs zH_69 (n + 1) b d 69 126 ml st t Q = vgi ml 4 (fun v => vc xs zH_69 n true d 69 128 ml (.int v :: st) t Q) := by
  rw [vc_q (o := (1, 0, 4, 1, [])) (by decide +kernel)]; rfl
theorem v_69_128 (xs : Option (List Int32)) (n : Nat) (b : Bool) (d : Nat) (ml : List Value) (t : T) (Q : Option Value → T → Prop) (st : List Value) : vc xs zH_69 (n + 1) b d 69 128 ml st t Q = (st.all zc1 = true ∧ vtk 5 st [] (fun as rest => rest.length ≤ 8 ∧ vrc as 12 (twc d 68 as t (fun r t' => vc xs zH_69 n true d 69 131 ml (r.toList ++ rest) t' Q)))) := by
  rw [vc_q (o := (36, 0, 68, 4, [(0, 12)])) (by decide +kernel)]; rfl
theorem v_69_131 (xs : Option (List Int32)) (n : Nat) (b : Bool) (d : Nat) (ml : List Value) (t : T) (Q : Option Value → T → Prop) (st : List Value) : vc xs zH_69 (n + 1) b d 69 131 ml st t Q = vc xs zH_69 n true d 69 135 ml st t Q := by
  rw [vc_q (o := (22, 0, 135, 0, [])) (by decide +kernel)]; rfl
theorem v_69_134 (xs : Option (List Int32)) (n : Nat) (b : Bool) (d : Nat) (ml : List Value) (t : T) (Q : Option Value → T → Prop) (st : List Value) : vc xs zH_69 (n + 1) b d 69 134 ml st t Q = vc xs zH_69 n true d 69 135 ml (.int (-1) :: st) t Q := by
  rw [vc_q (o := (0, (-1), 0, 0, [])) (by decide +kernel)]; rfl
theorem v_69_135 (xs : Option (List Int32)) (n : Nat) (b : Bool) (d : Nat) (ml : List Value) (t : T) (Q : Option Value → T → Prop) (v : Int32) : vc xs zH_69 (n + 1) b d 69 135 ml [.int v] t Q = Q (some (.int v)) t := by
  rw [vc_q (o := (40, 0, 0, 0, [])) (by decide +kernel)]; rfl
def zH_70 : List Nat := []
theorem v_70_0 (xs : Option (List Int32)) (n : Nat) (b : Bool) (d : Nat) (ml : List Value) (t : T) (Q : Option Value → T → Prop) (st : List Value) : vc xs zH_70 (n + 1) b d 70 0 ml st t Q = vgi ml 0 (fun v => vc xs zH_70 n true d 70 1 ml (.int v :: st) t Q) := by
  rw [vc_q (o := (1, 0, 0, 0, [])) (by decide +kernel)]; rfl
theorem v_70_1 (xs : Option (List Int32)) (n : Nat) (b : Bool) (d : Nat) (ml : List Value) (t : T) (Q : Option Value → T → Prop) (st : List Value) : vc xs zH_70 (n + 1) b d 70 1 ml st t Q = vgi ml 1 (fun v => vc xs zH_70 n true d 70 2 ml (.int v :: st) t Q) := by
  rw [vc_q (o := (1, 0, 1, 0, [])) (by decide +kernel)]; rfl
theorem v_70_2 (xs : Option (List Int32)) (n : Nat) (b : Bool) (d : Nat) (ml : List Value) (t : T) (Q : Option Value → T → Prop) (u v : Int32) (r : List Value) : vc xs zH_70 (n + 1) b d 70 2 ml (.int v :: .int u :: r) t Q = (if u = v then vc xs zH_70 n true d 70 5 ml r t Q else vc xs zH_70 n true d 70 9 ml r t Q) := by
  rw [vc_q (o := (20, 0, 9, 1, [])) (by decide +kernel)]; rfl
theorem v_70_5 (xs : Option (List Int32)) (n : Nat) (b : Bool) (d : Nat) (ml : List Value) (t : T) (Q : Option Value → T → Prop) (st : List Value) : vc xs zH_70 (n + 1) b d 70 5 ml st t Q = vgi ml 0 (fun v => vc xs zH_70 n true d 70 6 ml (.int v :: st) t Q) := by
  rw [vc_q (o := (1, 0, 0, 0, [])) (by decide +kernel)]; rfl
theorem v_70_6 (xs : Option (List Int32)) (n : Nat) (b : Bool) (d : Nat) (ml : List Value) (t : T) (Q : Option Value → T → Prop) (st : List Value) : vc xs zH_70 (n + 1) b d 70 6 ml st t Q = vc xs zH_70 n true d 70 10 ml st t Q := by
  rw [vc_q (o := (22, 0, 10, 0, [])) (by decide +kernel)]; rfl
theorem v_70_9 (xs : Option (List Int32)) (n : Nat) (b : Bool) (d : Nat) (ml : List Value) (t : T) (Q : Option Value → T → Prop) (st : List Value) : vc xs zH_70 (n + 1) b d 70 9 ml st t Q = vc xs zH_70 n true d 70 10 ml (.int 2 :: st) t Q := by
  rw [vc_q (o := (0, 2, 0, 0, [])) (by decide +kernel)]; rfl
theorem v_70_10 (xs : Option (List Int32)) (n : Nat) (b : Bool) (d : Nat) (ml : List Value) (t : T) (Q : Option Value → T → Prop) (v : Int32) : vc xs zH_70 (n + 1) b d 70 10 ml [.int v] t Q = Q (some (.int v)) t := by
  rw [vc_q (o := (40, 0, 0, 0, [])) (by decide +kernel)]; rfl
def zH_71 : List Nat := [16, 79, 92, 149, 180, 192, 235, 304]
theorem v_71_0 (xs : Option (List Int32)) (n : Nat) (b : Bool) (d : Nat) (ml : List Value) (t : T) (Q : Option Value → T → Prop) (st : List Value) : vc xs zH_71 (n + 1) b d 71 0 ml st t Q = vga ml 0 (fun v => vc xs zH_71 n true d 71 1 ml (.ref v :: st) t Q) := by
  rw [vc_q (o := (2, 0, 0, 0, [])) (by decide +kernel)]; rfl
theorem v_71_1 (xs : Option (List Int32)) (n : Nat) (b : Bool) (d : Nat) (ml : List Value) (t : T) (Q : Option Value → T → Prop) (st : List Value) : vc xs zH_71 (n + 1) b d 71 1 ml st t Q = vgi ml 1 (fun v => vc xs zH_71 n true d 71 2 ml (.int v :: st) t Q) := by
  rw [vc_q (o := (1, 0, 1, 0, [])) (by decide +kernel)]; rfl
theorem v_71_2 (xs : Option (List Int32)) (n : Nat) (b : Bool) (d : Nat) (ml : List Value) (t : T) (Q : Option Value → T → Prop) (st : List Value) : vc xs zH_71 (n + 1) b d 71 2 ml st t Q = vc xs zH_71 n true d 71 5 ml (.int 182 :: st) t Q := by
  rw [vc_q (o := (0, 182, 2, 0, [])) (by decide +kernel)]; rfl
theorem v_71_5 (xs : Option (List Int32)) (n : Nat) (b : Bool) (d : Nat) (ml : List Value) (t : T) (Q : Option Value → T → Prop) (st : List Value) : vc xs zH_71 (n + 1) b d 71 5 ml st t Q = (st.all zc1 = true ∧ vtk 3 st [] (fun as rest => rest.length ≤ 8 ∧ vrc as 12 (twc d 44 as t (fun r t' => vc xs zH_71 n true d 71 8 ml (r.toList ++ rest) t' Q)))) := by
  rw [vc_q (o := (36, 0, 44, 2, [(0, 12)])) (by decide +kernel)]; rfl
theorem v_71_8 (xs : Option (List Int32)) (n : Nat) (b : Bool) (d : Nat) (ml : List Value) (t : T) (Q : Option Value → T → Prop) (st : List Value) : vc xs zH_71 (n + 1) b d 71 8 ml st t Q = vga ml 0 (fun v => vc xs zH_71 n true d 71 9 ml (.ref v :: st) t Q) := by
  rw [vc_q (o := (2, 0, 0, 0, [])) (by decide +kernel)]; rfl
theorem v_71_9 (xs : Option (List Int32)) (n : Nat) (b : Bool) (d : Nat) (ml : List Value) (t : T) (Q : Option Value → T → Prop) (st : List Value) : vc xs zH_71 (n + 1) b d 71 9 ml st t Q = vgi ml 1 (fun v => vc xs zH_71 n true d 71 10 ml (.int v :: st) t Q) := by
  rw [vc_q (o := (1, 0, 1, 0, [])) (by decide +kernel)]; rfl
theorem v_71_10 (xs : Option (List Int32)) (n : Nat) (b : Bool) (d : Nat) (ml : List Value) (t : T) (Q : Option Value → T → Prop) (st : List Value) : vc xs zH_71 (n + 1) b d 71 10 ml st t Q = (st.all zc1 = true ∧ vtk 2 st [] (fun as rest => rest.length ≤ 8 ∧ vrc as 12 (twc d 40 as t (fun r t' => vc xs zH_71 n true d 71 13 ml (r.toList ++ rest) t' Q)))) := by
  rw [vc_q (o := (36, 0, 40, 1, [(0, 12)])) (by decide +kernel)]; rfl
theorem v_71_13 (xs : Option (List Int32)) (n : Nat) (b : Bool) (d : Nat) (ml : List Value) (t : T) (Q : Option Value → T → Prop) (v : Int32) (r : List Value) : vc xs zH_71 (n + 1) b d 71 13 ml (.int v :: r) t Q = vset ml 2 (.int v) (fun l => vc xs zH_71 n true d 71 14 l r t Q) := by
  rw [vc_q (o := (3, 0, 2, 0, [])) (by decide +kernel)]; rfl
theorem v_71_14 (xs : Option (List Int32)) (n : Nat) (b : Bool) (d : Nat) (ml : List Value) (t : T) (Q : Option Value → T → Prop) (st : List Value) : vc xs zH_71 (n + 1) b d 71 14 ml st t Q = vc xs zH_71 n true d 71 15 ml (.int 0 :: st) t Q := by
  rw [vc_q (o := (0, 0, 0, 0, [])) (by decide +kernel)]; rfl
theorem v_71_15 (xs : Option (List Int32)) (n : Nat) (b : Bool) (d : Nat) (ml : List Value) (t : T) (Q : Option Value → T → Prop) (v : Int32) (r : List Value) : vc xs zH_71 (n + 1) b d 71 15 ml (.int v :: r) t Q = vset ml 3 (.int v) (fun l => vc xs zH_71 n true d 71 16 l r t Q) := by
  rw [vc_q (o := (3, 0, 3, 0, [])) (by decide +kernel)]; rfl
theorem v_71_16 (xs : Option (List Int32)) (n : Nat) (d : Nat) (ml : List Value) (t : T) (Q : Option Value → T → Prop) (st : List Value) : vc xs zH_71 (n + 1) false d 71 16 ml st t Q = vgi ml 3 (fun v => vc xs zH_71 n true d 71 17 ml (.int v :: st) t Q) := by
  rw [vc_q (o := (1, 0, 3, 0, [])) (by decide +kernel)]; rfl
theorem h_71_16 (xs : Option (List Int32)) (n d : Nat) (ml st : List Value) (t : T) (Q : Option Value → T → Prop) : vc xs zH_71 (n + 1) true d 71 16 ml st t Q = twp xs d 71 16 ml st t Q := id rfl
theorem v_71_17 (xs : Option (List Int32)) (n : Nat) (b : Bool) (d : Nat) (ml : List Value) (t : T) (Q : Option Value → T → Prop) (st : List Value) : vc xs zH_71 (n + 1) b d 71 17 ml st t Q = vgi ml 2 (fun v => vc xs zH_71 n true d 71 18 ml (.int v :: st) t Q) := by
  rw [vc_q (o := (1, 0, 2, 0, [])) (by decide +kernel)]; rfl
theorem v_71_18 (xs : Option (List Int32)) (n : Nat) (b : Bool) (d : Nat) (ml : List Value) (t : T) (Q : Option Value → T → Prop) (u v : Int32) (r : List Value) : vc xs zH_71 (n + 1) b d 71 18 ml (.int v :: .int u :: r) t Q = (if u < v then vc xs zH_71 n true d 71 21 ml r t Q else vc xs zH_71 n true d 71 74 ml r t Q) := by
  rw [vc_q (o := (20, 0, 74, 3, [])) (by decide +kernel)]; rfl
theorem v_71_21 (xs : Option (List Int32)) (n : Nat) (b : Bool) (d : Nat) (ml : List Value) (t : T) (Q : Option Value → T → Prop) (st : List Value) : vc xs zH_71 (n + 1) b d 71 21 ml st t Q = vga ml 0 (fun v => vc xs zH_71 n true d 71 22 ml (.ref v :: st) t Q) := by
  rw [vc_q (o := (2, 0, 0, 0, [])) (by decide +kernel)]; rfl
theorem v_71_22 (xs : Option (List Int32)) (n : Nat) (b : Bool) (d : Nat) (ml : List Value) (t : T) (Q : Option Value → T → Prop) (u : Nat) (r : List Value) : vc xs zH_71 (n + 1) b d 71 22 ml (.ref u :: r) t Q = (vtag u = 12 ∧ vc xs zH_71 n true d 71 25 ml (.ref (tref t u 35) :: r) t Q) := by
  rw [vc_q (o := (25, 0, 12, 35, [])) (by decide +kernel)]; rfl
theorem v_71_25 (xs : Option (List Int32)) (n : Nat) (b : Bool) (d : Nat) (ml : List Value) (t : T) (Q : Option Value → T → Prop) (st : List Value) : vc xs zH_71 (n + 1) b d 71 25 ml st t Q = vgi ml 3 (fun v => vc xs zH_71 n true d 71 26 ml (.int v :: st) t Q) := by
  rw [vc_q (o := (1, 0, 3, 0, [])) (by decide +kernel)]; rfl
theorem v_71_26 (xs : Option (List Int32)) (n : Nat) (b : Bool) (d : Nat) (ml : List Value) (t : T) (Q : Option Value → T → Prop) (st : List Value) : vc xs zH_71 (n + 1) b d 71 26 ml st t Q = vga ml 0 (fun v => vc xs zH_71 n true d 71 27 ml (.ref v :: st) t Q) := by
  rw [vc_q (o := (2, 0, 0, 0, [])) (by decide +kernel)]; rfl
theorem v_71_27 (xs : Option (List Int32)) (n : Nat) (b : Bool) (d : Nat) (ml : List Value) (t : T) (Q : Option Value → T → Prop) (st : List Value) : vc xs zH_71 (n + 1) b d 71 27 ml st t Q = vgi ml 1 (fun v => vc xs zH_71 n true d 71 28 ml (.int v :: st) t Q) := by
  rw [vc_q (o := (1, 0, 1, 0, [])) (by decide +kernel)]; rfl
theorem v_71_28 (xs : Option (List Int32)) (n : Nat) (b : Bool) (d : Nat) (ml : List Value) (t : T) (Q : Option Value → T → Prop) (st : List Value) : vc xs zH_71 (n + 1) b d 71 28 ml st t Q = vc xs zH_71 n true d 71 29 ml (.int 2 :: st) t Q := by
  rw [vc_q (o := (0, 2, 0, 0, [])) (by decide +kernel)]; rfl
theorem v_71_29 (xs : Option (List Int32)) (n : Nat) (b : Bool) (d : Nat) (ml : List Value) (t : T) (Q : Option Value → T → Prop) (st : List Value) : vc xs zH_71 (n + 1) b d 71 29 ml st t Q = vgi ml 3 (fun v => vc xs zH_71 n true d 71 30 ml (.int v :: st) t Q) := by
  rw [vc_q (o := (1, 0, 3, 0, [])) (by decide +kernel)]; rfl
theorem v_71_30 (xs : Option (List Int32)) (n : Nat) (b : Bool) (d : Nat) (ml : List Value) (t : T) (Q : Option Value → T → Prop) (st : List Value) : vc xs zH_71 (n + 1) b d 71 30 ml st t Q = vc xs zH_71 n true d 71 31 ml (.int 0 :: st) t Q := by
  rw [vc_q (o := (0, 0, 0, 0, [])) (by decide +kernel)]; rfl
theorem v_71_31 (xs : Option (List Int32)) (n : Nat) (b : Bool) (d : Nat) (ml : List Value) (t : T) (Q : Option Value → T → Prop) (st : List Value) : vc xs zH_71 (n + 1) b d 71 31 ml st t Q = (st.all zc1 = true ∧ vtk 5 st [] (fun as rest => rest.length ≤ 8 ∧ vrc as 12 (twc d 43 as t (fun r t' => vc xs zH_71 n true d 71 34 ml (r.toList ++ rest) t' Q)))) := by
  rw [vc_q (o := (36, 0, 43, 4, [(0, 12)])) (by decide +kernel)]; rfl
theorem v_71_34 (xs : Option (List Int32)) (n : Nat) (b : Bool) (d : Nat) (ml : List Value) (t : T) (Q : Option Value → T → Prop) (st : List Value) : vc xs zH_71 (n + 1) b d 71 34 ml st t Q = vc xs zH_71 n true d 71 35 ml (.int 3 :: st) t Q := by
  rw [vc_q (o := (0, 3, 0, 0, [])) (by decide +kernel)]; rfl
theorem v_71_35 (xs : Option (List Int32)) (n : Nat) (b : Bool) (d : Nat) (ml : List Value) (t : T) (Q : Option Value → T → Prop) (u v : Int32) (r : List Value) : vc xs zH_71 (n + 1) b d 71 35 ml (.int v :: .int u :: r) t Q = vc xs zH_71 n true d 71 36 ml (.int (u * v) :: r) t Q := by
  rw [vc_q (o := (8, 0, 0, 0, [])) (by decide +kernel)]; rfl
theorem v_71_36 (xs : Option (List Int32)) (n : Nat) (b : Bool) (d : Nat) (ml : List Value) (t : T) (Q : Option Value → T → Prop) (st : List Value) : vc xs zH_71 (n + 1) b d 71 36 ml st t Q = vga ml 0 (fun v => vc xs zH_71 n true d 71 37 ml (.ref v :: st) t Q) := by
  rw [vc_q (o := (2, 0, 0, 0, [])) (by decide +kernel)]; rfl
theorem v_71_37 (xs : Option (List Int32)) (n : Nat) (b : Bool) (d : Nat) (ml : List Value) (t : T) (Q : Option Value → T → Prop) (st : List Value) : vc xs zH_71 (n + 1) b d 71 37 ml st t Q = vgi ml 1 (fun v => vc xs zH_71 n true d 71 38 ml (.int v :: st) t Q) := by
  rw [vc_q (o := (1, 0, 1, 0, [])) (by decide +kernel)]; rfl
theorem v_71_38 (xs : Option (List Int32)) (n : Nat) (b : Bool) (d : Nat) (ml : List Value) (t : T) (Q : Option Value → T → Prop) (st : List Value) : vc xs zH_71 (n + 1) b d 71 38 ml st t Q = vc xs zH_71 n true d 71 39 ml (.int 3 :: st) t Q := by
  rw [vc_q (o := (0, 3, 0, 0, [])) (by decide +kernel)]; rfl
theorem v_71_39 (xs : Option (List Int32)) (n : Nat) (b : Bool) (d : Nat) (ml : List Value) (t : T) (Q : Option Value → T → Prop) (st : List Value) : vc xs zH_71 (n + 1) b d 71 39 ml st t Q = vgi ml 3 (fun v => vc xs zH_71 n true d 71 40 ml (.int v :: st) t Q) := by
  rw [vc_q (o := (1, 0, 3, 0, [])) (by decide +kernel)]; rfl
theorem v_71_40 (xs : Option (List Int32)) (n : Nat) (b : Bool) (d : Nat) (ml : List Value) (t : T) (Q : Option Value → T → Prop) (st : List Value) : vc xs zH_71 (n + 1) b d 71 40 ml st t Q = vc xs zH_71 n true d 71 41 ml (.int 0 :: st) t Q := by
  rw [vc_q (o := (0, 0, 0, 0, [])) (by decide +kernel)]; rfl
theorem v_71_41 (xs : Option (List Int32)) (n : Nat) (b : Bool) (d : Nat) (ml : List Value) (t : T) (Q : Option Value → T → Prop) (st : List Value) : vc xs zH_71 (n + 1) b d 71 41 ml st t Q = (st.all zc1 = true ∧ vtk 5 st [] (fun as rest => rest.length ≤ 8 ∧ vrc as 12 (twc d 43 as t (fun r t' => vc xs zH_71 n true d 71 44 ml (r.toList ++ rest) t' Q)))) := by
  rw [vc_q (o := (36, 0, 43, 4, [(0, 12)])) (by decide +kernel)]; rfl
theorem v_71_44 (xs : Option (List Int32)) (n : Nat) (b : Bool) (d : Nat) (ml : List Value) (t : T) (Q : Option Value → T → Prop) (u v : Int32) (r : List Value) : vc xs zH_71 (n + 1) b d 71 44 ml (.int v :: .int u :: r) t Q = vc xs zH_71 n true d 71 45 ml (.int (u + v) :: r) t Q := by
  rw [vc_q (o := (6, 0, 0, 0, [])) (by decide +kernel)]; rfl
theorem v_71_45 (xs : Option (List Int32)) (n : Nat) (b : Bool) (d : Nat) (ml : List Value) (t : T) (Q : Option Value → T → Prop) (st : List Value) : vc xs zH_71 (n + 1) b d 71 45 ml st t Q = vc xs zH_71 n true d 71 46 ml (.int 3 :: st) t Q := by
  rw [vc_q (o := (0, 3, 0, 0, [])) (by decide +kernel)]; rfl
theorem v_71_46 (xs : Option (List Int32)) (n : Nat) (b : Bool) (d : Nat) (ml : List Value) (t : T) (Q : Option Value → T → Prop) (u v : Int32) (r : List Value) : vc xs zH_71 (n + 1) b d 71 46 ml (.int v :: .int u :: r) t Q = vc xs zH_71 n true d 71 47 ml (.int (u * v) :: r) t Q := by
  rw [vc_q (o := (8, 0, 0, 0, [])) (by decide +kernel)]; rfl
theorem v_71_47 (xs : Option (List Int32)) (n : Nat) (b : Bool) (d : Nat) (ml : List Value) (t : T) (Q : Option Value → T → Prop) (st : List Value) : vc xs zH_71 (n + 1) b d 71 47 ml st t Q = vga ml 0 (fun v => vc xs zH_71 n true d 71 48 ml (.ref v :: st) t Q) := by
  rw [vc_q (o := (2, 0, 0, 0, [])) (by decide +kernel)]; rfl
theorem v_71_48 (xs : Option (List Int32)) (n : Nat) (b : Bool) (d : Nat) (ml : List Value) (t : T) (Q : Option Value → T → Prop) (st : List Value) : vc xs zH_71 (n + 1) b d 71 48 ml st t Q = vgi ml 1 (fun v => vc xs zH_71 n true d 71 49 ml (.int v :: st) t Q) := by
  rw [vc_q (o := (1, 0, 1, 0, [])) (by decide +kernel)]; rfl
theorem v_71_49 (xs : Option (List Int32)) (n : Nat) (b : Bool) (d : Nat) (ml : List Value) (t : T) (Q : Option Value → T → Prop) (st : List Value) : vc xs zH_71 (n + 1) b d 71 49 ml st t Q = vc xs zH_71 n true d 71 50 ml (.int 4 :: st) t Q := by
  rw [vc_q (o := (0, 4, 0, 0, [])) (by decide +kernel)]; rfl
theorem v_71_50 (xs : Option (List Int32)) (n : Nat) (b : Bool) (d : Nat) (ml : List Value) (t : T) (Q : Option Value → T → Prop) (st : List Value) : vc xs zH_71 (n + 1) b d 71 50 ml st t Q = vgi ml 3 (fun v => vc xs zH_71 n true d 71 51 ml (.int v :: st) t Q) := by
  rw [vc_q (o := (1, 0, 3, 0, [])) (by decide +kernel)]; rfl
theorem v_71_51 (xs : Option (List Int32)) (n : Nat) (b : Bool) (d : Nat) (ml : List Value) (t : T) (Q : Option Value → T → Prop) (st : List Value) : vc xs zH_71 (n + 1) b d 71 51 ml st t Q = vc xs zH_71 n true d 71 52 ml (.int 0 :: st) t Q := by
  rw [vc_q (o := (0, 0, 0, 0, [])) (by decide +kernel)]; rfl
theorem v_71_52 (xs : Option (List Int32)) (n : Nat) (b : Bool) (d : Nat) (ml : List Value) (t : T) (Q : Option Value → T → Prop) (st : List Value) : vc xs zH_71 (n + 1) b d 71 52 ml st t Q = (st.all zc1 = true ∧ vtk 5 st [] (fun as rest => rest.length ≤ 8 ∧ vrc as 12 (twc d 43 as t (fun r t' => vc xs zH_71 n true d 71 55 ml (r.toList ++ rest) t' Q)))) := by
  rw [vc_q (o := (36, 0, 43, 4, [(0, 12)])) (by decide +kernel)]; rfl
theorem v_71_55 (xs : Option (List Int32)) (n : Nat) (b : Bool) (d : Nat) (ml : List Value) (t : T) (Q : Option Value → T → Prop) (u v : Int32) (r : List Value) : vc xs zH_71 (n + 1) b d 71 55 ml (.int v :: .int u :: r) t Q = vc xs zH_71 n true d 71 56 ml (.int (u + v) :: r) t Q := by
  rw [vc_q (o := (6, 0, 0, 0, [])) (by decide +kernel)]; rfl
theorem v_71_56 (xs : Option (List Int32)) (n : Nat) (b : Bool) (d : Nat) (ml : List Value) (t : T) (Q : Option Value → T → Prop) (st : List Value) : vc xs zH_71 (n + 1) b d 71 56 ml st t Q = vc xs zH_71 n true d 71 57 ml (.int 3 :: st) t Q := by
  rw [vc_q (o := (0, 3, 0, 0, [])) (by decide +kernel)]; rfl
theorem v_71_57 (xs : Option (List Int32)) (n : Nat) (b : Bool) (d : Nat) (ml : List Value) (t : T) (Q : Option Value → T → Prop) (u v : Int32) (r : List Value) : vc xs zH_71 (n + 1) b d 71 57 ml (.int v :: .int u :: r) t Q = vc xs zH_71 n true d 71 58 ml (.int (u * v) :: r) t Q := by
  rw [vc_q (o := (8, 0, 0, 0, [])) (by decide +kernel)]; rfl
theorem v_71_58 (xs : Option (List Int32)) (n : Nat) (b : Bool) (d : Nat) (ml : List Value) (t : T) (Q : Option Value → T → Prop) (st : List Value) : vc xs zH_71 (n + 1) b d 71 58 ml st t Q = vga ml 0 (fun v => vc xs zH_71 n true d 71 59 ml (.ref v :: st) t Q) := by
  rw [vc_q (o := (2, 0, 0, 0, [])) (by decide +kernel)]; rfl
theorem v_71_59 (xs : Option (List Int32)) (n : Nat) (b : Bool) (d : Nat) (ml : List Value) (t : T) (Q : Option Value → T → Prop) (st : List Value) : vc xs zH_71 (n + 1) b d 71 59 ml st t Q = vgi ml 1 (fun v => vc xs zH_71 n true d 71 60 ml (.int v :: st) t Q) := by
  rw [vc_q (o := (1, 0, 1, 0, [])) (by decide +kernel)]; rfl
theorem v_71_60 (xs : Option (List Int32)) (n : Nat) (b : Bool) (d : Nat) (ml : List Value) (t : T) (Q : Option Value → T → Prop) (st : List Value) : vc xs zH_71 (n + 1) b d 71 60 ml st t Q = vc xs zH_71 n true d 71 61 ml (.int 5 :: st) t Q := by
  rw [vc_q (o := (0, 5, 0, 0, [])) (by decide +kernel)]; rfl
theorem v_71_61 (xs : Option (List Int32)) (n : Nat) (b : Bool) (d : Nat) (ml : List Value) (t : T) (Q : Option Value → T → Prop) (st : List Value) : vc xs zH_71 (n + 1) b d 71 61 ml st t Q = vgi ml 3 (fun v => vc xs zH_71 n true d 71 62 ml (.int v :: st) t Q) := by
  rw [vc_q (o := (1, 0, 3, 0, [])) (by decide +kernel)]; rfl
theorem v_71_62 (xs : Option (List Int32)) (n : Nat) (b : Bool) (d : Nat) (ml : List Value) (t : T) (Q : Option Value → T → Prop) (st : List Value) : vc xs zH_71 (n + 1) b d 71 62 ml st t Q = vc xs zH_71 n true d 71 63 ml (.int 0 :: st) t Q := by
  rw [vc_q (o := (0, 0, 0, 0, [])) (by decide +kernel)]; rfl
theorem v_71_63 (xs : Option (List Int32)) (n : Nat) (b : Bool) (d : Nat) (ml : List Value) (t : T) (Q : Option Value → T → Prop) (st : List Value) : vc xs zH_71 (n + 1) b d 71 63 ml st t Q = (st.all zc1 = true ∧ vtk 5 st [] (fun as rest => rest.length ≤ 8 ∧ vrc as 12 (twc d 43 as t (fun r t' => vc xs zH_71 n true d 71 66 ml (r.toList ++ rest) t' Q)))) := by
  rw [vc_q (o := (36, 0, 43, 4, [(0, 12)])) (by decide +kernel)]; rfl
theorem v_71_66 (xs : Option (List Int32)) (n : Nat) (b : Bool) (d : Nat) (ml : List Value) (t : T) (Q : Option Value → T → Prop) (u v : Int32) (r : List Value) : vc xs zH_71 (n + 1) b d 71 66 ml (.int v :: .int u :: r) t Q = vc xs zH_71 n true d 71 67 ml (.int (u + v) :: r) t Q := by
  rw [vc_q (o := (6, 0, 0, 0, [])) (by decide +kernel)]; rfl
theorem v_71_67 (xs : Option (List Int32)) (n : Nat) (b : Bool) (d : Nat) (ml : List Value) (t : T) (Q : Option Value → T → Prop) (w v : Int32) (u : Nat) (r : List Value) : vc xs zH_71 (n + 1) b d 71 67 ml (.int w :: .int v :: .ref u :: r) t Q = (vtag u = 100 ∧ vinb v (vlen u) ∧ vc xs zH_71 n true d 71 68 ml r (tsi t u v.toNatClampNeg w) Q) := by
  rw [vc_q (o := (32, 0, 0, 0, [])) (by decide +kernel)]; rfl
theorem v_71_68 (xs : Option (List Int32)) (n : Nat) (b : Bool) (d : Nat) (ml : List Value) (t : T) (Q : Option Value → T → Prop) (st : List Value) : vc xs zH_71 (n + 1) b d 71 68 ml st t Q = vgi ml 3 (fun v => vset ml 3 (.int (v + 1)) (fun l => vc xs zH_71 n true d 71 71 l st t Q)) := by
  rw [vc_q (o := (5, 1, 3, 0, [])) (by decide +kernel)]; rfl
theorem v_71_71 (xs : Option (List Int32)) (n : Nat) (b : Bool) (d : Nat) (ml : List Value) (t : T) (Q : Option Value → T → Prop) (st : List Value) : vc xs zH_71 (n + 1) b d 71 71 ml st t Q = vc xs zH_71 n true d 71 16 ml st t Q := by
  rw [vc_q (o := (22, 0, 16, 0, [])) (by decide +kernel)]; rfl
theorem v_71_74 (xs : Option (List Int32)) (n : Nat) (b : Bool) (d : Nat) (ml : List Value) (t : T) (Q : Option Value → T → Prop) (st : List Value) : vc xs zH_71 (n + 1) b d 71 74 ml st t Q = vc xs zH_71 n true d 71 75 ml (.int 0 :: st) t Q := by
  rw [vc_q (o := (0, 0, 0, 0, [])) (by decide +kernel)]; rfl
theorem v_71_75 (xs : Option (List Int32)) (n : Nat) (b : Bool) (d : Nat) (ml : List Value) (t : T) (Q : Option Value → T → Prop) (v : Int32) (r : List Value) : vc xs zH_71 (n + 1) b d 71 75 ml (.int v :: r) t Q = vset ml 3 (.int v) (fun l => vc xs zH_71 n true d 71 76 l r t Q) := by
  rw [vc_q (o := (3, 0, 3, 0, [])) (by decide +kernel)]; rfl
theorem v_71_76 (xs : Option (List Int32)) (n : Nat) (b : Bool) (d : Nat) (ml : List Value) (t : T) (Q : Option Value → T → Prop) (st : List Value) : vc xs zH_71 (n + 1) b d 71 76 ml st t Q = vc xs zH_71 n true d 71 77 ml (.int 0 :: st) t Q := by
  rw [vc_q (o := (0, 0, 0, 0, [])) (by decide +kernel)]; rfl
theorem v_71_77 (xs : Option (List Int32)) (n : Nat) (b : Bool) (d : Nat) (ml : List Value) (t : T) (Q : Option Value → T → Prop) (v : Int32) (r : List Value) : vc xs zH_71 (n + 1) b d 71 77 ml (.int v :: r) t Q = vset ml 4 (.int v) (fun l => vc xs zH_71 n true d 71 79 l r t Q) := by
  rw [vc_q (o := (3, 0, 4, 1, [])) (by decide +kernel)]; rfl
theorem v_71_79 (xs : Option (List Int32)) (n : Nat) (d : Nat) (ml : List Value) (t : T) (Q : Option Value → T → Prop) (st : List Value) : vc xs zH_71 (n + 1) false d 71 79 ml st t Q = vgi ml 4 (fun v => vc xs zH_71 n true d 71 81 ml (.int v :: st) t Q) := by
  rw [vc_q (o := (1, 0, 4, 1, [])) (by decide +kernel)]; rfl
theorem h_71_79 (xs : Option (List Int32)) (n d : Nat) (ml st : List Value) (t : T) (Q : Option Value → T → Prop) : vc xs zH_71 (n + 1) true d 71 79 ml st t Q = twp xs d 71 79 ml st t Q := id rfl
theorem v_71_81 (xs : Option (List Int32)) (n : Nat) (b : Bool) (d : Nat) (ml : List Value) (t : T) (Q : Option Value → T → Prop) (st : List Value) : vc xs zH_71 (n + 1) b d 71 81 ml st t Q = vc xs zH_71 n true d 71 83 ml (.int 81 :: st) t Q := by
  rw [vc_q (o := (0, 81, 1, 0, [])) (by decide +kernel)]; rfl
theorem v_71_83 (xs : Option (List Int32)) (n : Nat) (b : Bool) (d : Nat) (ml : List Value) (t : T) (Q : Option Value → T → Prop) (u v : Int32) (r : List Value) : vc xs zH_71 (n + 1) b d 71 83 ml (.int v :: .int u :: r) t Q = (if u < v then vc xs zH_71 n true d 71 86 ml r t Q else vc xs zH_71 n true d 71 146 ml r t Q) := by
  rw [vc_q (o := (20, 0, 146, 3, [])) (by decide +kernel)]; rfl
theorem v_71_86 (xs : Option (List Int32)) (n : Nat) (b : Bool) (d : Nat) (ml : List Value) (t : T) (Q : Option Value → T → Prop) (st : List Value) : vc xs zH_71 (n + 1) b d 71 86 ml st t Q = vc xs zH_71 n true d 71 87 ml (.int 0 :: st) t Q := by
  rw [vc_q (o := (0, 0, 0, 0, [])) (by decide +kernel)]; rfl
theorem v_71_87 (xs : Option (List Int32)) (n : Nat) (b : Bool) (d : Nat) (ml : List Value) (t : T) (Q : Option Value → T → Prop) (v : Int32) (r : List Value) : vc xs zH_71 (n + 1) b d 71 87 ml (.int v :: r) t Q = vset ml 5 (.int v) (fun l => vc xs zH_71 n true d 71 89 l r t Q) := by
  rw [vc_q (o := (3, 0, 5, 1, [])) (by decide +kernel)]; rfl
theorem v_71_89 (xs : Option (List Int32)) (n : Nat) (b : Bool) (d : Nat) (ml : List Value) (t : T) (Q : Option Value → T → Prop) (st : List Value) : vc xs zH_71 (n + 1) b d 71 89 ml st t Q = vc xs zH_71 n true d 71 90 ml (.int 0 :: st) t Q := by
  rw [vc_q (o := (0, 0, 0, 0, [])) (by decide +kernel)]; rfl
theorem v_71_90 (xs : Option (List Int32)) (n : Nat) (b : Bool) (d : Nat) (ml : List Value) (t : T) (Q : Option Value → T → Prop) (v : Int32) (r : List Value) : vc xs zH_71 (n + 1) b d 71 90 ml (.int v :: r) t Q = vset ml 6 (.int v) (fun l => vc xs zH_71 n true d 71 92 l r t Q) := by
  rw [vc_q (o := (3, 0, 6, 1, [])) (by decide +kernel)]; rfl
theorem v_71_92 (xs : Option (List Int32)) (n : Nat) (d : Nat) (ml : List Value) (t : T) (Q : Option Value → T → Prop) (st : List Value) : vc xs zH_71 (n + 1) false d 71 92 ml st t Q = vgi ml 6 (fun v => vc xs zH_71 n true d 71 94 ml (.int v :: st) t Q) := by
  rw [vc_q (o := (1, 0, 6, 1, [])) (by decide +kernel)]; rfl
theorem h_71_92 (xs : Option (List Int32)) (n d : Nat) (ml st : List Value) (t : T) (Q : Option Value → T → Prop) : vc xs zH_71 (n + 1) true d 71 92 ml st t Q = twp xs d 71 92 ml st t Q := id rfl
theorem v_71_94 (xs : Option (List Int32)) (n : Nat) (b : Bool) (d : Nat) (ml : List Value) (t : T) (Q : Option Value → T → Prop) (st : List Value) : vc xs zH_71 (n + 1) b d 71 94 ml st t Q = vgi ml 2 (fun v => vc xs zH_71 n true d 71 95 ml (.int v :: st) t Q) := by
  rw [vc_q (o := (1, 0, 2, 0, [])) (by decide +kernel)]; rfl
theorem v_71_95 (xs : Option (List Int32)) (n : Nat) (b : Bool) (d : Nat) (ml : List Value) (t : T) (Q : Option Value → T → Prop) (u v : Int32) (r : List Value) : vc xs zH_71 (n + 1) b d 71 95 ml (.int v :: .int u :: r) t Q = (if u < v then vc xs zH_71 n true d 71 98 ml r t Q else vc xs zH_71 n true d 71 127 ml r t Q) := by
  rw [vc_q (o := (20, 0, 127, 3, [])) (by decide +kernel)]; rfl
theorem v_71_98 (xs : Option (List Int32)) (n : Nat) (b : Bool) (d : Nat) (ml : List Value) (t : T) (Q : Option Value → T → Prop) (st : List Value) : vc xs zH_71 (n + 1) b d 71 98 ml st t Q = vga ml 0 (fun v => vc xs zH_71 n true d 71 99 ml (.ref v :: st) t Q) := by
  rw [vc_q (o := (2, 0, 0, 0, [])) (by decide +kernel)]; rfl
theorem v_71_99 (xs : Option (List Int32)) (n : Nat) (b : Bool) (d : Nat) (ml : List Value) (t : T) (Q : Option Value → T → Prop) (u : Nat) (r : List Value) : vc xs zH_71 (n + 1) b d 71 99 ml (.ref u :: r) t Q = (vtag u = 12 ∧ vc xs zH_71 n true d 71 102 ml (.ref (tref t u 35) :: r) t Q) := by
  rw [vc_q (o := (25, 0, 12, 35, [])) (by decide +kernel)]; rfl
theorem v_71_102 (xs : Option (List Int32)) (n : Nat) (b : Bool) (d : Nat) (ml : List Value) (t : T) (Q : Option Value → T → Prop) (st : List Value) : vc xs zH_71 (n + 1) b d 71 102 ml st t Q = vgi ml 6 (fun v => vc xs zH_71 n true d 71 104 ml (.int v :: st) t Q) := by
  rw [vc_q (o := (1, 0, 6, 1, [])) (by decide +kernel)]; rfl
theorem v_71_104 (xs : Option (List Int32)) (n : Nat) (b : Bool) (d : Nat) (ml : List Value) (t : T) (Q : Option Value → T → Prop) (v : Int32) (u : Nat) (r : List Value) : vc xs zH_71 (n + 1) b d 71 104 ml (.int v :: .ref u :: r) t Q = (vtag u = 100 ∧ vinb v (vlen u) ∧ vc xs zH_71 n true d 71 105 ml (.int (t.1 u v.toNatClampNeg) :: r) t Q) := by
  rw [vc_q (o := (29, 0, 0, 0, [])) (by decide +kernel)]; rfl
theorem v_71_105 (xs : Option (List Int32)) (n : Nat) (b : Bool) (d : Nat) (ml : List Value) (t : T) (Q : Option Value → T → Prop) (st : List Value) : vc xs zH_71 (n + 1) b d 71 105 ml st t Q = vgi ml 4 (fun v => vc xs zH_71 n true d 71 107 ml (.int v :: st) t Q) := by
  rw [vc_q (o := (1, 0, 4, 1, [])) (by decide +kernel)]; rfl
theorem v_71_107 (xs : Option (List Int32)) (n : Nat) (b : Bool) (d : Nat) (ml : List Value) (t : T) (Q : Option Value → T → Prop) (u v : Int32) (r : List Value) : vc xs zH_71 (n + 1) b d 71 107 ml (.int v :: .int u :: r) t Q = (if u = v then vc xs zH_71 n true d 71 110 ml r t Q else vc xs zH_71 n true d 71 121 ml r t Q) := by
  rw [vc_q (o := (20, 0, 121, 1, [])) (by decide +kernel)]; rfl
theorem v_71_110 (xs : Option (List Int32)) (n : Nat) (b : Bool) (d : Nat) (ml : List Value) (t : T) (Q : Option Value → T → Prop) (st : List Value) : vc xs zH_71 (n + 1) b d 71 110 ml st t Q = vga ml 0 (fun v => vc xs zH_71 n true d 71 111 ml (.ref v :: st) t Q) := by
  rw [vc_q (o := (2, 0, 0, 0, [])) (by decide +kernel)]; rfl
theorem v_71_111 (xs : Option (List Int32)) (n : Nat) (b : Bool) (d : Nat) (ml : List Value) (t : T) (Q : Option Value → T → Prop) (u : Nat) (r : List Value) : vc xs zH_71 (n + 1) b d 71 111 ml (.ref u :: r) t Q = (vtag u = 12 ∧ vc xs zH_71 n true d 71 114 ml (.ref (tref t u 36) :: r) t Q) := by
  rw [vc_q (o := (25, 0, 12, 36, [])) (by decide +kernel)]; rfl
theorem v_71_114 (xs : Option (List Int32)) (n : Nat) (b : Bool) (d : Nat) (ml : List Value) (t : T) (Q : Option Value → T → Prop) (st : List Value) : vc xs zH_71 (n + 1) b d 71 114 ml st t Q = vgi ml 6 (fun v => vc xs zH_71 n true d 71 116 ml (.int v :: st) t Q) := by
  rw [vc_q (o := (1, 0, 6, 1, [])) (by decide +kernel)]; rfl
theorem v_71_116 (xs : Option (List Int32)) (n : Nat) (b : Bool) (d : Nat) (ml : List Value) (t : T) (Q : Option Value → T → Prop) (st : List Value) : vc xs zH_71 (n + 1) b d 71 116 ml st t Q = vgi ml 3 (fun v => vc xs zH_71 n true d 71 117 ml (.int v :: st) t Q) := by
  rw [vc_q (o := (1, 0, 3, 0, [])) (by decide +kernel)]; rfl
theorem v_71_117 (xs : Option (List Int32)) (n : Nat) (b : Bool) (d : Nat) (ml : List Value) (t : T) (Q : Option Value → T → Prop) (w v : Int32) (u : Nat) (r : List Value) : vc xs zH_71 (n + 1) b d 71 117 ml (.int w :: .int v :: .ref u :: r) t Q = (vtag u = 100 ∧ vinb v (vlen u) ∧ vc xs zH_71 n true d 71 118 ml r (tsi t u v.toNatClampNeg w) Q) := by
  rw [vc_q (o := (32, 0, 0, 0, [])) (by decide +kernel)]; rfl
theorem v_71_118 (xs : Option (List Int32)) (n : Nat) (b : Bool) (d : Nat) (ml : List Value) (t : T) (Q : Option Value → T → Prop) (st : List Value) : vc xs zH_71 (n + 1) b d 71 118 ml st t Q = vc xs zH_71 n true d 71 119 ml (.int 1 :: st) t Q := by
  rw [vc_q (o := (0, 1, 0, 0, [])) (by decide +kernel)]; rfl
theorem v_71_119 (xs : Option (List Int32)) (n : Nat) (b : Bool) (d : Nat) (ml : List Value) (t : T) (Q : Option Value → T → Prop) (v : Int32) (r : List Value) : vc xs zH_71 (n + 1) b d 71 119 ml (.int v :: r) t Q = vset ml 5 (.int v) (fun l => vc xs zH_71 n true d 71 121 l r t Q) := by
  rw [vc_q (o := (3, 0, 5, 1, [])) (by decide +kernel)]; rfl
theorem v_71_121 (xs : Option (List Int32)) (n : Nat) (b : Bool) (d : Nat) (ml : List Value) (t : T) (Q : Option Value → T → Prop) (st : List Value) : vc xs zH_71 (n + 1) b d 71 121 ml st t Q = vgi ml 6 (fun v => vset ml 6 (.int (v + 1)) (fun l => vc xs zH_71 n true d 71 124 l st t Q)) := by
  rw [vc_q (o := (5, 1, 6, 0, [])) (by decide +kernel)]; rfl
theorem v_71_124 (xs : Option (List Int32)) (n : Nat) (b : Bool) (d : Nat) (ml : List Value) (t : T) (Q : Option Value → T → Prop) (st : List Value) : vc xs zH_71 (n + 1) b d 71 124 ml st t Q = vc xs zH_71 n true d 71 92 ml st t Q := by
  rw [vc_q (o := (22, 0, 92, 0, [])) (by decide +kernel)]; rfl
theorem v_71_127 (xs : Option (List Int32)) (n : Nat) (b : Bool) (d : Nat) (ml : List Value) (t : T) (Q : Option Value → T → Prop) (st : List Value) : vc xs zH_71 (n + 1) b d 71 127 ml st t Q = vgi ml 5 (fun v => vc xs zH_71 n true d 71 129 ml (.int v :: st) t Q) := by
  rw [vc_q (o := (1, 0, 5, 1, [])) (by decide +kernel)]; rfl
theorem v_71_129 (xs : Option (List Int32)) (n : Nat) (b : Bool) (d : Nat) (ml : List Value) (t : T) (Q : Option Value → T → Prop) (u : Int32) (r : List Value) : vc xs zH_71 (n + 1) b d 71 129 ml (.int u :: r) t Q = (if u = 0 then vc xs zH_71 n true d 71 138 ml r t Q else vc xs zH_71 n true d 71 132 ml r t Q) := by
  rw [vc_q (o := (21, 0, 138, 0, [])) (by decide +kernel)]; rfl
theorem v_71_132 (xs : Option (List Int32)) (n : Nat) (b : Bool) (d : Nat) (ml : List Value) (t : T) (Q : Option Value → T → Prop) (st : List Value) : vc xs zH_71 (n + 1) b d 71 132 ml st t Q = vgi ml 3 (fun v => vc xs zH_71 n true d 71 133 ml (.int v :: st) t Q) := by
  rw [vc_q (o := (1, 0, 3, 0, [])) (by decide +kernel)]; rfl
theorem v_71_133 (xs : Option (List Int32)) (n : Nat) (b : Bool) (d : Nat) (ml : List Value) (t : T) (Q : Option Value → T → Prop) (st : List Value) : vc xs zH_71 (n + 1) b d 71 133 ml st t Q = vc xs zH_71 n true d 71 134 ml (.int 1 :: st) t Q := by
  rw [vc_q (o := (0, 1, 0, 0, [])) (by decide +kernel)]; rfl
theorem v_71_134 (xs : Option (List Int32)) (n : Nat) (b : Bool) (d : Nat) (ml : List Value) (t : T) (Q : Option Value → T → Prop) (u v : Int32) (r : List Value) : vc xs zH_71 (n + 1) b d 71 134 ml (.int v :: .int u :: r) t Q = vc xs zH_71 n true d 71 135 ml (.int (u + v) :: r) t Q := by
  rw [vc_q (o := (6, 0, 0, 0, [])) (by decide +kernel)]; rfl
theorem v_71_135 (xs : Option (List Int32)) (n : Nat) (b : Bool) (d : Nat) (ml : List Value) (t : T) (Q : Option Value → T → Prop) (st : List Value) : vc xs zH_71 (n + 1) b d 71 135 ml st t Q = vc xs zH_71 n true d 71 139 ml st t Q := by
  rw [vc_q (o := (22, 0, 139, 0, [])) (by decide +kernel)]; rfl
theorem v_71_138 (xs : Option (List Int32)) (n : Nat) (b : Bool) (d : Nat) (ml : List Value) (t : T) (Q : Option Value → T → Prop) (st : List Value) : vc xs zH_71 (n + 1) b d 71 138 ml st t Q = vgi ml 3 (fun v => vc xs zH_71 n true d 71 139 ml (.int v :: st) t Q) := by
  rw [vc_q (o := (1, 0, 3, 0, [])) (by decide +kernel)]; rfl
theorem v_71_139 (xs : Option (List Int32)) (n : Nat) (b : Bool) (d : Nat) (ml : List Value) (t : T) (Q : Option Value → T → Prop) (v : Int32) (r : List Value) : vc xs zH_71 (n + 1) b d 71 139 ml (.int v :: r) t Q = vset ml 3 (.int v) (fun l => vc xs zH_71 n true d 71 140 l r t Q) := by
  rw [vc_q (o := (3, 0, 3, 0, [])) (by decide +kernel)]; rfl
theorem v_71_140 (xs : Option (List Int32)) (n : Nat) (b : Bool) (d : Nat) (ml : List Value) (t : T) (Q : Option Value → T → Prop) (st : List Value) : vc xs zH_71 (n + 1) b d 71 140 ml st t Q = vgi ml 4 (fun v => vset ml 4 (.int (v + 1)) (fun l => vc xs zH_71 n true d 71 143 l st t Q)) := by
  rw [vc_q (o := (5, 1, 4, 0, [])) (by decide +kernel)]; rfl
theorem v_71_143 (xs : Option (List Int32)) (n : Nat) (b : Bool) (d : Nat) (ml : List Value) (t : T) (Q : Option Value → T → Prop) (st : List Value) : vc xs zH_71 (n + 1) b d 71 143 ml st t Q = vc xs zH_71 n true d 71 79 ml st t Q := by
  rw [vc_q (o := (22, 0, 79, 0, [])) (by decide +kernel)]; rfl
theorem v_71_146 (xs : Option (List Int32)) (n : Nat) (b : Bool) (d : Nat) (ml : List Value) (t : T) (Q : Option Value → T → Prop) (st : List Value) : vc xs zH_71 (n + 1) b d 71 146 ml st t Q = vc xs zH_71 n true d 71 147 ml (.int 3 :: st) t Q := by
  rw [vc_q (o := (0, 3, 0, 0, [])) (by decide +kernel)]; rfl
theorem v_71_147 (xs : Option (List Int32)) (n : Nat) (b : Bool) (d : Nat) (ml : List Value) (t : T) (Q : Option Value → T → Prop) (v : Int32) (r : List Value) : vc xs zH_71 (n + 1) b d 71 147 ml (.int v :: r) t Q = vset ml 4 (.int v) (fun l => vc xs zH_71 n true d 71 149 l r t Q) := by
  rw [vc_q (o := (3, 0, 4, 1, [])) (by decide +kernel)]; rfl
theorem v_71_149 (xs : Option (List Int32)) (n : Nat) (d : Nat) (ml : List Value) (t : T) (Q : Option Value → T → Prop) (st : List Value) : vc xs zH_71 (n + 1) false d 71 149 ml st t Q = vgi ml 4 (fun v => vc xs zH_71 n true d 71 151 ml (.int v :: st) t Q) := by
  rw [vc_q (o := (1, 0, 4, 1, [])) (by decide +kernel)]; rfl
theorem h_71_149 (xs : Option (List Int32)) (n d : Nat) (ml st : List Value) (t : T) (Q : Option Value → T → Prop) : vc xs zH_71 (n + 1) true d 71 149 ml st t Q = twp xs d 71 149 ml st t Q := id rfl
theorem v_71_151 (xs : Option (List Int32)) (n : Nat) (b : Bool) (d : Nat) (ml : List Value) (t : T) (Q : Option Value → T → Prop) (st : List Value) : vc xs zH_71 (n + 1) b d 71 151 ml st t Q = vc xs zH_71 n true d 71 153 ml (.int 105 :: st) t Q := by
  rw [vc_q (o := (0, 105, 1, 0, [])) (by decide +kernel)]; rfl
theorem v_71_153 (xs : Option (List Int32)) (n : Nat) (b : Bool) (d : Nat) (ml : List Value) (t : T) (Q : Option Value → T → Prop) (u v : Int32) (r : List Value) : vc xs zH_71 (n + 1) b d 71 153 ml (.int v :: .int u :: r) t Q = (if u < v then vc xs zH_71 n true d 71 156 ml r t Q else vc xs zH_71 n true d 71 170 ml r t Q) := by
  rw [vc_q (o := (20, 0, 170, 3, [])) (by decide +kernel)]; rfl
theorem v_71_156 (xs : Option (List Int32)) (n : Nat) (b : Bool) (d : Nat) (ml : List Value) (t : T) (Q : Option Value → T → Prop) (st : List Value) : vc xs zH_71 (n + 1) b d 71 156 ml st t Q = vga ml 0 (fun v => vc xs zH_71 n true d 71 157 ml (.ref v :: st) t Q) := by
  rw [vc_q (o := (2, 0, 0, 0, [])) (by decide +kernel)]; rfl
theorem v_71_157 (xs : Option (List Int32)) (n : Nat) (b : Bool) (d : Nat) (ml : List Value) (t : T) (Q : Option Value → T → Prop) (st : List Value) : vc xs zH_71 (n + 1) b d 71 157 ml st t Q = vgi ml 1 (fun v => vc xs zH_71 n true d 71 158 ml (.int v :: st) t Q) := by
  rw [vc_q (o := (1, 0, 1, 0, [])) (by decide +kernel)]; rfl
theorem v_71_158 (xs : Option (List Int32)) (n : Nat) (b : Bool) (d : Nat) (ml : List Value) (t : T) (Q : Option Value → T → Prop) (st : List Value) : vc xs zH_71 (n + 1) b d 71 158 ml st t Q = vgi ml 4 (fun v => vc xs zH_71 n true d 71 160 ml (.int v :: st) t Q) := by
  rw [vc_q (o := (1, 0, 4, 1, [])) (by decide +kernel)]; rfl
theorem v_71_160 (xs : Option (List Int32)) (n : Nat) (b : Bool) (d : Nat) (ml : List Value) (t : T) (Q : Option Value → T → Prop) (st : List Value) : vc xs zH_71 (n + 1) b d 71 160 ml st t Q = vc xs zH_71 n true d 71 161 ml (.int 0 :: st) t Q := by
  rw [vc_q (o := (0, 0, 0, 0, [])) (by decide +kernel)]; rfl
theorem v_71_161 (xs : Option (List Int32)) (n : Nat) (b : Bool) (d : Nat) (ml : List Value) (t : T) (Q : Option Value → T → Prop) (st : List Value) : vc xs zH_71 (n + 1) b d 71 161 ml st t Q = (st.all zc1 = true ∧ vtk 4 st [] (fun as rest => rest.length ≤ 8 ∧ vrc as 12 (twc d 39 as t (fun r t' => vc xs zH_71 n true d 71 164 ml (r.toList ++ rest) t' Q)))) := by
  rw [vc_q (o := (36, 0, 39, 3, [(0, 12)])) (by decide +kernel)]; rfl
theorem v_71_164 (xs : Option (List Int32)) (n : Nat) (b : Bool) (d : Nat) (ml : List Value) (t : T) (Q : Option Value → T → Prop) (st : List Value) : vc xs zH_71 (n + 1) b d 71 164 ml st t Q = vgi ml 4 (fun v => vset ml 4 (.int (v + 1)) (fun l => vc xs zH_71 n true d 71 167 l st t Q)) := by
  rw [vc_q (o := (5, 1, 4, 0, [])) (by decide +kernel)]; rfl
theorem v_71_167 (xs : Option (List Int32)) (n : Nat) (b : Bool) (d : Nat) (ml : List Value) (t : T) (Q : Option Value → T → Prop) (st : List Value) : vc xs zH_71 (n + 1) b d 71 167 ml st t Q = vc xs zH_71 n true d 71 149 ml st t Q := by
  rw [vc_q (o := (22, 0, 149, 0, [])) (by decide +kernel)]; rfl
theorem v_71_170 (xs : Option (List Int32)) (n : Nat) (b : Bool) (d : Nat) (ml : List Value) (t : T) (Q : Option Value → T → Prop) (st : List Value) : vc xs zH_71 (n + 1) b d 71 170 ml st t Q = vga ml 0 (fun v => vc xs zH_71 n true d 71 171 ml (.ref v :: st) t Q) := by
  rw [vc_q (o := (2, 0, 0, 0, [])) (by decide +kernel)]; rfl
theorem v_71_171 (xs : Option (List Int32)) (n : Nat) (b : Bool) (d : Nat) (ml : List Value) (t : T) (Q : Option Value → T → Prop) (st : List Value) : vc xs zH_71 (n + 1) b d 71 171 ml st t Q = vgi ml 1 (fun v => vc xs zH_71 n true d 71 172 ml (.int v :: st) t Q) := by
  rw [vc_q (o := (1, 0, 1, 0, [])) (by decide +kernel)]; rfl
theorem v_71_172 (xs : Option (List Int32)) (n : Nat) (b : Bool) (d : Nat) (ml : List Value) (t : T) (Q : Option Value → T → Prop) (st : List Value) : vc xs zH_71 (n + 1) b d 71 172 ml st t Q = vc xs zH_71 n true d 71 173 ml (.int 0 :: st) t Q := by
  rw [vc_q (o := (0, 0, 0, 0, [])) (by decide +kernel)]; rfl
theorem v_71_173 (xs : Option (List Int32)) (n : Nat) (b : Bool) (d : Nat) (ml : List Value) (t : T) (Q : Option Value → T → Prop) (st : List Value) : vc xs zH_71 (n + 1) b d 71 173 ml st t Q = vgi ml 3 (fun v => vc xs zH_71 n true d 71 174 ml (.int v :: st) t Q) := by
  rw [vc_q (o := (1, 0, 3, 0, [])) (by decide +kernel)]; rfl
theorem v_71_174 (xs : Option (List Int32)) (n : Nat) (b : Bool) (d : Nat) (ml : List Value) (t : T) (Q : Option Value → T → Prop) (st : List Value) : vc xs zH_71 (n + 1) b d 71 174 ml st t Q = (st.all zc1 = true ∧ vtk 4 st [] (fun as rest => rest.length ≤ 8 ∧ vrc as 12 (twc d 39 as t (fun r t' => vc xs zH_71 n true d 71 177 ml (r.toList ++ rest) t' Q)))) := by
  rw [vc_q (o := (36, 0, 39, 3, [(0, 12)])) (by decide +kernel)]; rfl
theorem v_71_177 (xs : Option (List Int32)) (n : Nat) (b : Bool) (d : Nat) (ml : List Value) (t : T) (Q : Option Value → T → Prop) (st : List Value) : vc xs zH_71 (n + 1) b d 71 177 ml st t Q = vc xs zH_71 n true d 71 178 ml (.int 0 :: st) t Q := by
  rw [vc_q (o := (0, 0, 0, 0, [])) (by decide +kernel)]; rfl
theorem v_71_178 (xs : Option (List Int32)) (n : Nat) (b : Bool) (d : Nat) (ml : List Value) (t : T) (Q : Option Value → T → Prop) (v : Int32) (r : List Value) : vc xs zH_71 (n + 1) b d 71 178 ml (.int v :: r) t Q = vset ml 4 (.int v) (fun l => vc xs zH_71 n true d 71 180 l r t Q) := by
  rw [vc_q (o := (3, 0, 4, 1, [])) (by decide +kernel)]; rfl
theorem v_71_180 (xs : Option (List Int32)) (n : Nat) (d : Nat) (ml : List Value) (t : T) (Q : Option Value → T → Prop) (st : List Value) : vc xs zH_71 (n + 1) false d 71 180 ml st t Q = vgi ml 4 (fun v => vc xs zH_71 n true d 71 182 ml (.int v :: st) t Q) := by
  rw [vc_q (o := (1, 0, 4, 1, [])) (by decide +kernel)]; rfl
theorem h_71_180 (xs : Option (List Int32)) (n d : Nat) (ml st : List Value) (t : T) (Q : Option Value → T → Prop) : vc xs zH_71 (n + 1) true d 71 180 ml st t Q = twp xs d 71 180 ml st t Q := id rfl
theorem v_71_182 (xs : Option (List Int32)) (n : Nat) (b : Bool) (d : Nat) (ml : List Value) (t : T) (Q : Option Value → T → Prop) (st : List Value) : vc xs zH_71 (n + 1) b d 71 182 ml st t Q = vgi ml 3 (fun v => vc xs zH_71 n true d 71 183 ml (.int v :: st) t Q) := by
  rw [vc_q (o := (1, 0, 3, 0, [])) (by decide +kernel)]; rfl
theorem v_71_183 (xs : Option (List Int32)) (n : Nat) (b : Bool) (d : Nat) (ml : List Value) (t : T) (Q : Option Value → T → Prop) (u v : Int32) (r : List Value) : vc xs zH_71 (n + 1) b d 71 183 ml (.int v :: .int u :: r) t Q = (if u < v then vc xs zH_71 n true d 71 186 ml r t Q else vc xs zH_71 n true d 71 372 ml r t Q) := by
  rw [vc_q (o := (20, 0, 372, 3, [])) (by decide +kernel)]; rfl
theorem v_71_186 (xs : Option (List Int32)) (n : Nat) (b : Bool) (d : Nat) (ml : List Value) (t : T) (Q : Option Value → T → Prop) (st : List Value) : vc xs zH_71 (n + 1) b d 71 186 ml st t Q = vc xs zH_71 n true d 71 187 ml (.int 0 :: st) t Q := by
  rw [vc_q (o := (0, 0, 0, 0, [])) (by decide +kernel)]; rfl
theorem v_71_187 (xs : Option (List Int32)) (n : Nat) (b : Bool) (d : Nat) (ml : List Value) (t : T) (Q : Option Value → T → Prop) (v : Int32) (r : List Value) : vc xs zH_71 (n + 1) b d 71 187 ml (.int v :: r) t Q = vset ml 5 (.int v) (fun l => vc xs zH_71 n true d 71 189 l r t Q) := by
  rw [vc_q (o := (3, 0, 5, 1, [])) (by decide +kernel)]; rfl
theorem v_71_189 (xs : Option (List Int32)) (n : Nat) (b : Bool) (d : Nat) (ml : List Value) (t : T) (Q : Option Value → T → Prop) (st : List Value) : vc xs zH_71 (n + 1) b d 71 189 ml st t Q = vc xs zH_71 n true d 71 190 ml (.int 0 :: st) t Q := by
  rw [vc_q (o := (0, 0, 0, 0, [])) (by decide +kernel)]; rfl
theorem v_71_190 (xs : Option (List Int32)) (n : Nat) (b : Bool) (d : Nat) (ml : List Value) (t : T) (Q : Option Value → T → Prop) (v : Int32) (r : List Value) : vc xs zH_71 (n + 1) b d 71 190 ml (.int v :: r) t Q = vset ml 6 (.int v) (fun l => vc xs zH_71 n true d 71 192 l r t Q) := by
  rw [vc_q (o := (3, 0, 6, 1, [])) (by decide +kernel)]; rfl
theorem v_71_192 (xs : Option (List Int32)) (n : Nat) (d : Nat) (ml : List Value) (t : T) (Q : Option Value → T → Prop) (st : List Value) : vc xs zH_71 (n + 1) false d 71 192 ml st t Q = vgi ml 6 (fun v => vc xs zH_71 n true d 71 194 ml (.int v :: st) t Q) := by
  rw [vc_q (o := (1, 0, 6, 1, [])) (by decide +kernel)]; rfl
theorem h_71_192 (xs : Option (List Int32)) (n d : Nat) (ml st : List Value) (t : T) (Q : Option Value → T → Prop) : vc xs zH_71 (n + 1) true d 71 192 ml st t Q = twp xs d 71 192 ml st t Q := id rfl
theorem v_71_194 (xs : Option (List Int32)) (n : Nat) (b : Bool) (d : Nat) (ml : List Value) (t : T) (Q : Option Value → T → Prop) (st : List Value) : vc xs zH_71 (n + 1) b d 71 194 ml st t Q = vgi ml 2 (fun v => vc xs zH_71 n true d 71 195 ml (.int v :: st) t Q) := by
  rw [vc_q (o := (1, 0, 2, 0, [])) (by decide +kernel)]; rfl
theorem v_71_195 (xs : Option (List Int32)) (n : Nat) (b : Bool) (d : Nat) (ml : List Value) (t : T) (Q : Option Value → T → Prop) (u v : Int32) (r : List Value) : vc xs zH_71 (n + 1) b d 71 195 ml (.int v :: .int u :: r) t Q = (if u < v then vc xs zH_71 n true d 71 198 ml r t Q else vc xs zH_71 n true d 71 279 ml r t Q) := by
  rw [vc_q (o := (20, 0, 279, 3, [])) (by decide +kernel)]; rfl
theorem v_71_198 (xs : Option (List Int32)) (n : Nat) (b : Bool) (d : Nat) (ml : List Value) (t : T) (Q : Option Value → T → Prop) (st : List Value) : vc xs zH_71 (n + 1) b d 71 198 ml st t Q = vga ml 0 (fun v => vc xs zH_71 n true d 71 199 ml (.ref v :: st) t Q) := by
  rw [vc_q (o := (2, 0, 0, 0, [])) (by decide +kernel)]; rfl
theorem v_71_199 (xs : Option (List Int32)) (n : Nat) (b : Bool) (d : Nat) (ml : List Value) (t : T) (Q : Option Value → T → Prop) (u : Nat) (r : List Value) : vc xs zH_71 (n + 1) b d 71 199 ml (.ref u :: r) t Q = (vtag u = 12 ∧ vc xs zH_71 n true d 71 202 ml (.ref (tref t u 36) :: r) t Q) := by
  rw [vc_q (o := (25, 0, 12, 36, [])) (by decide +kernel)]; rfl
theorem v_71_202 (xs : Option (List Int32)) (n : Nat) (b : Bool) (d : Nat) (ml : List Value) (t : T) (Q : Option Value → T → Prop) (st : List Value) : vc xs zH_71 (n + 1) b d 71 202 ml st t Q = vgi ml 6 (fun v => vc xs zH_71 n true d 71 204 ml (.int v :: st) t Q) := by
  rw [vc_q (o := (1, 0, 6, 1, [])) (by decide +kernel)]; rfl
theorem v_71_204 (xs : Option (List Int32)) (n : Nat) (b : Bool) (d : Nat) (ml : List Value) (t : T) (Q : Option Value → T → Prop) (v : Int32) (u : Nat) (r : List Value) : vc xs zH_71 (n + 1) b d 71 204 ml (.int v :: .ref u :: r) t Q = (vtag u = 100 ∧ vinb v (vlen u) ∧ vc xs zH_71 n true d 71 205 ml (.int (t.1 u v.toNatClampNeg) :: r) t Q) := by
  rw [vc_q (o := (29, 0, 0, 0, [])) (by decide +kernel)]; rfl
theorem v_71_205 (xs : Option (List Int32)) (n : Nat) (b : Bool) (d : Nat) (ml : List Value) (t : T) (Q : Option Value → T → Prop) (st : List Value) : vc xs zH_71 (n + 1) b d 71 205 ml st t Q = vgi ml 4 (fun v => vc xs zH_71 n true d 71 207 ml (.int v :: st) t Q) := by
  rw [vc_q (o := (1, 0, 4, 1, [])) (by decide +kernel)]; rfl
theorem v_71_207 (xs : Option (List Int32)) (n : Nat) (b : Bool) (d : Nat) (ml : List Value) (t : T) (Q : Option Value → T → Prop) (u v : Int32) (r : List Value) : vc xs zH_71 (n + 1) b d 71 207 ml (.int v :: .int u :: r) t Q = (if u = v then vc xs zH_71 n true d 71 210 ml r t Q else vc xs zH_71 n true d 71 273 ml r t Q) := by
  rw [vc_q (o := (20, 0, 273, 1, [])) (by decide +kernel)]; rfl
theorem v_71_210 (xs : Option (List Int32)) (n : Nat) (b : Bool) (d : Nat) (ml : List Value) (t : T) (Q : Option Value → T → Prop) (st : List Value) : vc xs zH_71 (n + 1) b d 71 210 ml st t Q = vgi ml 5 (fun v => vc xs zH_71 n true d 71 212 ml (.int v :: st) t Q) := by
  rw [vc_q (o := (1, 0, 5, 1, [])) (by decide +kernel)]; rfl
theorem v_71_212 (xs : Option (List Int32)) (n : Nat) (b : Bool) (d : Nat) (ml : List Value) (t : T) (Q : Option Value → T → Prop) (st : List Value) : vc xs zH_71 (n + 1) b d 71 212 ml st t Q = vga ml 0 (fun v => vc xs zH_71 n true d 71 213 ml (.ref v :: st) t Q) := by
  rw [vc_q (o := (2, 0, 0, 0, [])) (by decide +kernel)]; rfl
theorem v_71_213 (xs : Option (List Int32)) (n : Nat) (b : Bool) (d : Nat) (ml : List Value) (t : T) (Q : Option Value → T → Prop) (st : List Value) : vc xs zH_71 (n + 1) b d 71 213 ml st t Q = vc xs zH_71 n true d 71 216 ml (.int 182 :: st) t Q := by
  rw [vc_q (o := (0, 182, 2, 0, [])) (by decide +kernel)]; rfl
theorem v_71_216 (xs : Option (List Int32)) (n : Nat) (b : Bool) (d : Nat) (ml : List Value) (t : T) (Q : Option Value → T → Prop) (st : List Value) : vc xs zH_71 (n + 1) b d 71 216 ml st t Q = vgi ml 6 (fun v => vc xs zH_71 n true d 71 218 ml (.int v :: st) t Q) := by
  rw [vc_q (o := (1, 0, 6, 1, [])) (by decide +kernel)]; rfl
theorem v_71_218 (xs : Option (List Int32)) (n : Nat) (b : Bool) (d : Nat) (ml : List Value) (t : T) (Q : Option Value → T → Prop) (st : List Value) : vc xs zH_71 (n + 1) b d 71 218 ml st t Q = (st.all zc1 = true ∧ vtk 3 st [] (fun as rest => rest.length ≤ 8 ∧ vrc as 12 (twc d 42 as t (fun r t' => vc xs zH_71 n true d 71 221 ml (r.toList ++ rest) t' Q)))) := by
  rw [vc_q (o := (36, 0, 42, 2, [(0, 12)])) (by decide +kernel)]; rfl
theorem v_71_221 (xs : Option (List Int32)) (n : Nat) (b : Bool) (d : Nat) (ml : List Value) (t : T) (Q : Option Value → T → Prop) (u : Int32) (r : List Value) : vc xs zH_71 (n + 1) b d 71 221 ml (.int u :: r) t Q = (if u = 0 then vc xs zH_71 n true d 71 228 ml r t Q else vc xs zH_71 n true d 71 224 ml r t Q) := by
  rw [vc_q (o := (21, 0, 228, 0, [])) (by decide +kernel)]; rfl
theorem v_71_224 (xs : Option (List Int32)) (n : Nat) (b : Bool) (d : Nat) (ml : List Value) (t : T) (Q : Option Value → T → Prop) (st : List Value) : vc xs zH_71 (n + 1) b d 71 224 ml st t Q = vc xs zH_71 n true d 71 225 ml (.int 2 :: st) t Q := by
  rw [vc_q (o := (0, 2, 0, 0, [])) (by decide +kernel)]; rfl
theorem v_71_225 (xs : Option (List Int32)) (n : Nat) (b : Bool) (d : Nat) (ml : List Value) (t : T) (Q : Option Value → T → Prop) (st : List Value) : vc xs zH_71 (n + 1) b d 71 225 ml st t Q = vc xs zH_71 n true d 71 229 ml st t Q := by
  rw [vc_q (o := (22, 0, 229, 0, [])) (by decide +kernel)]; rfl
theorem v_71_228 (xs : Option (List Int32)) (n : Nat) (b : Bool) (d : Nat) (ml : List Value) (t : T) (Q : Option Value → T → Prop) (st : List Value) : vc xs zH_71 (n + 1) b d 71 228 ml st t Q = vc xs zH_71 n true d 71 229 ml (.int 1 :: st) t Q := by
  rw [vc_q (o := (0, 1, 0, 0, [])) (by decide +kernel)]; rfl
theorem v_71_229 (xs : Option (List Int32)) (n : Nat) (b : Bool) (d : Nat) (ml : List Value) (t : T) (Q : Option Value → T → Prop) (u v : Int32) (r : List Value) : vc xs zH_71 (n + 1) b d 71 229 ml (.int v :: .int u :: r) t Q = vc xs zH_71 n true d 71 230 ml (.int (u + v) :: r) t Q := by
  rw [vc_q (o := (6, 0, 0, 0, [])) (by decide +kernel)]; rfl
theorem v_71_230 (xs : Option (List Int32)) (n : Nat) (b : Bool) (d : Nat) (ml : List Value) (t : T) (Q : Option Value → T → Prop) (v : Int32) (r : List Value) : vc xs zH_71 (n + 1) b d 71 230 ml (.int v :: r) t Q = vset ml 5 (.int v) (fun l => vc xs zH_71 n true d 71 232 l r t Q) := by
  rw [vc_q (o := (3, 0, 5, 1, [])) (by decide +kernel)]; rfl
theorem v_71_232 (xs : Option (List Int32)) (n : Nat) (b : Bool) (d : Nat) (ml : List Value) (t : T) (Q : Option Value → T → Prop) (st : List Value) : vc xs zH_71 (n + 1) b d 71 232 ml st t Q = vc xs zH_71 n true d 71 233 ml (.int 2 :: st) t Q := by
  rw [vc_q (o := (0, 2, 0, 0, [])) (by decide +kernel)]; rfl
theorem v_71_233 (xs : Option (List Int32)) (n : Nat) (b : Bool) (d : Nat) (ml : List Value) (t : T) (Q : Option Value → T → Prop) (v : Int32) (r : List Value) : vc xs zH_71 (n + 1) b d 71 233 ml (.int v :: r) t Q = vset ml 7 (.int v) (fun l => vc xs zH_71 n true d 71 235 l r t Q) := by
  rw [vc_q (o := (3, 0, 7, 1, [])) (by decide +kernel)]; rfl
theorem v_71_235 (xs : Option (List Int32)) (n : Nat) (d : Nat) (ml : List Value) (t : T) (Q : Option Value → T → Prop) (st : List Value) : vc xs zH_71 (n + 1) false d 71 235 ml st t Q = vgi ml 7 (fun v => vc xs zH_71 n true d 71 237 ml (.int v :: st) t Q) := by
  rw [vc_q (o := (1, 0, 7, 1, [])) (by decide +kernel)]; rfl
theorem h_71_235 (xs : Option (List Int32)) (n d : Nat) (ml st : List Value) (t : T) (Q : Option Value → T → Prop) : vc xs zH_71 (n + 1) true d 71 235 ml st t Q = twp xs d 71 235 ml st t Q := id rfl
theorem v_71_237 (xs : Option (List Int32)) (n : Nat) (b : Bool) (d : Nat) (ml : List Value) (t : T) (Q : Option Value → T → Prop) (st : List Value) : vc xs zH_71 (n + 1) b d 71 237 ml st t Q = vc xs zH_71 n true d 71 239 ml (.int 6 :: st) t Q := by
  rw [vc_q (o := (0, 6, 1, 0, [])) (by decide +kernel)]; rfl
theorem v_71_239 (xs : Option (List Int32)) (n : Nat) (b : Bool) (d : Nat) (ml : List Value) (t : T) (Q : Option Value → T → Prop) (u v : Int32) (r : List Value) : vc xs zH_71 (n + 1) b d 71 239 ml (.int v :: .int u :: r) t Q = (if u < v then vc xs zH_71 n true d 71 242 ml r t Q else vc xs zH_71 n true d 71 273 ml r t Q) := by
  rw [vc_q (o := (20, 0, 273, 3, [])) (by decide +kernel)]; rfl
theorem v_71_242 (xs : Option (List Int32)) (n : Nat) (b : Bool) (d : Nat) (ml : List Value) (t : T) (Q : Option Value → T → Prop) (st : List Value) : vc xs zH_71 (n + 1) b d 71 242 ml st t Q = vga ml 0 (fun v => vc xs zH_71 n true d 71 243 ml (.ref v :: st) t Q) := by
  rw [vc_q (o := (2, 0, 0, 0, [])) (by decide +kernel)]; rfl
theorem v_71_243 (xs : Option (List Int32)) (n : Nat) (b : Bool) (d : Nat) (ml : List Value) (t : T) (Q : Option Value → T → Prop) (st : List Value) : vc xs zH_71 (n + 1) b d 71 243 ml st t Q = vgi ml 1 (fun v => vc xs zH_71 n true d 71 244 ml (.int v :: st) t Q) := by
  rw [vc_q (o := (1, 0, 1, 0, [])) (by decide +kernel)]; rfl
theorem v_71_244 (xs : Option (List Int32)) (n : Nat) (b : Bool) (d : Nat) (ml : List Value) (t : T) (Q : Option Value → T → Prop) (st : List Value) : vc xs zH_71 (n + 1) b d 71 244 ml st t Q = vgi ml 7 (fun v => vc xs zH_71 n true d 71 246 ml (.int v :: st) t Q) := by
  rw [vc_q (o := (1, 0, 7, 1, [])) (by decide +kernel)]; rfl
theorem v_71_246 (xs : Option (List Int32)) (n : Nat) (b : Bool) (d : Nat) (ml : List Value) (t : T) (Q : Option Value → T → Prop) (st : List Value) : vc xs zH_71 (n + 1) b d 71 246 ml st t Q = vgi ml 4 (fun v => vc xs zH_71 n true d 71 248 ml (.int v :: st) t Q) := by
  rw [vc_q (o := (1, 0, 4, 1, [])) (by decide +kernel)]; rfl
theorem v_71_248 (xs : Option (List Int32)) (n : Nat) (b : Bool) (d : Nat) (ml : List Value) (t : T) (Q : Option Value → T → Prop) (st : List Value) : vc xs zH_71 (n + 1) b d 71 248 ml st t Q = vc xs zH_71 n true d 71 249 ml (.int 0 :: st) t Q := by
  rw [vc_q (o := (0, 0, 0, 0, [])) (by decide +kernel)]; rfl
theorem v_71_249 (xs : Option (List Int32)) (n : Nat) (b : Bool) (d : Nat) (ml : List Value) (t : T) (Q : Option Value → T → Prop) (st : List Value) : vc xs zH_71 (n + 1) b d 71 249 ml st t Q = (st.all zc1 = true ∧ vtk 3 st [] (fun as rest => rest.length ≤ 8 ∧ twc d 41 as t (fun r t' => vc xs zH_71 n true d 71 252 ml (r.toList ++ rest) t' Q))) := by
  rw [vc_q (o := (37, 0, 41, 3, [])) (by decide +kernel)]; rfl
theorem v_71_252 (xs : Option (List Int32)) (n : Nat) (b : Bool) (d : Nat) (ml : List Value) (t : T) (Q : Option Value → T → Prop) (st : List Value) : vc xs zH_71 (n + 1) b d 71 252 ml st t Q = vga ml 0 (fun v => vc xs zH_71 n true d 71 253 ml (.ref v :: st) t Q) := by
  rw [vc_q (o := (2, 0, 0, 0, [])) (by decide +kernel)]; rfl
theorem v_71_253 (xs : Option (List Int32)) (n : Nat) (b : Bool) (d : Nat) (ml : List Value) (t : T) (Q : Option Value → T → Prop) (st : List Value) : vc xs zH_71 (n + 1) b d 71 253 ml st t Q = vc xs zH_71 n true d 71 256 ml (.int 182 :: st) t Q := by
  rw [vc_q (o := (0, 182, 2, 0, [])) (by decide +kernel)]; rfl
theorem v_71_256 (xs : Option (List Int32)) (n : Nat) (b : Bool) (d : Nat) (ml : List Value) (t : T) (Q : Option Value → T → Prop) (st : List Value) : vc xs zH_71 (n + 1) b d 71 256 ml st t Q = vgi ml 7 (fun v => vc xs zH_71 n true d 71 258 ml (.int v :: st) t Q) := by
  rw [vc_q (o := (1, 0, 7, 1, [])) (by decide +kernel)]; rfl
theorem v_71_258 (xs : Option (List Int32)) (n : Nat) (b : Bool) (d : Nat) (ml : List Value) (t : T) (Q : Option Value → T → Prop) (st : List Value) : vc xs zH_71 (n + 1) b d 71 258 ml st t Q = vgi ml 6 (fun v => vc xs zH_71 n true d 71 260 ml (.int v :: st) t Q) := by
  rw [vc_q (o := (1, 0, 6, 1, [])) (by decide +kernel)]; rfl
theorem v_71_260 (xs : Option (List Int32)) (n : Nat) (b : Bool) (d : Nat) (ml : List Value) (t : T) (Q : Option Value → T → Prop) (st : List Value) : vc xs zH_71 (n + 1) b d 71 260 ml st t Q = vc xs zH_71 n true d 71 261 ml (.int 0 :: st) t Q := by
  rw [vc_q (o := (0, 0, 0, 0, [])) (by decide +kernel)]; rfl
theorem v_71_261 (xs : Option (List Int32)) (n : Nat) (b : Bool) (d : Nat) (ml : List Value) (t : T) (Q : Option Value → T → Prop) (st : List Value) : vc xs zH_71 (n + 1) b d 71 261 ml st t Q = (st.all zc1 = true ∧ vtk 5 st [] (fun as rest => rest.length ≤ 8 ∧ vrc as 12 (twc d 43 as t (fun r t' => vc xs zH_71 n true d 71 264 ml (r.toList ++ rest) t' Q)))) := by
  rw [vc_q (o := (36, 0, 43, 4, [(0, 12)])) (by decide +kernel)]; rfl
theorem v_71_264 (xs : Option (List Int32)) (n : Nat) (b : Bool) (d : Nat) (ml : List Value) (t : T) (Q : Option Value → T → Prop) (st : List Value) : vc xs zH_71 (n + 1) b d 71 264 ml st t Q = (st.all zc1 = true ∧ vtk 4 st [] (fun as rest => rest.length ≤ 8 ∧ vrc as 12 (twc d 39 as t (fun r t' => vc xs zH_71 n true d 71 267 ml (r.toList ++ rest) t' Q)))) := by
  rw [vc_q (o := (36, 0, 39, 3, [(0, 12)])) (by decide +kernel)]; rfl
theorem v_71_267 (xs : Option (List Int32)) (n : Nat) (b : Bool) (d : Nat) (ml : List Value) (t : T) (Q : Option Value → T → Prop) (st : List Value) : vc xs zH_71 (n + 1) b d 71 267 ml st t Q = vgi ml 7 (fun v => vset ml 7 (.int (v + 1)) (fun l => vc xs zH_71 n true d 71 270 l st t Q)) := by
  rw [vc_q (o := (5, 1, 7, 0, [])) (by decide +kernel)]; rfl
theorem v_71_270 (xs : Option (List Int32)) (n : Nat) (b : Bool) (d : Nat) (ml : List Value) (t : T) (Q : Option Value → T → Prop) (st : List Value) : vc xs zH_71 (n + 1) b d 71 270 ml st t Q = vc xs zH_71 n true d 71 235 ml st t Q := by
  rw [vc_q (o := (22, 0, 235, 0, [])) (by decide +kernel)]; rfl
theorem v_71_273 (xs : Option (List Int32)) (n : Nat) (b : Bool) (d : Nat) (ml : List Value) (t : T) (Q : Option Value → T → Prop) (st : List Value) : vc xs zH_71 (n + 1) b d 71 273 ml st t Q = vgi ml 6 (fun v => vset ml 6 (.int (v + 1)) (fun l => vc xs zH_71 n true d 71 276 l st t Q)) := by
  rw [vc_q (o := (5, 1, 6, 0, [])) (by decide +kernel)]; rfl
theorem v_71_276 (xs : Option (List Int32)) (n : Nat) (b : Bool) (d : Nat) (ml : List Value) (t : T) (Q : Option Value → T → Prop) (st : List Value) : vc xs zH_71 (n + 1) b d 71 276 ml st t Q = vc xs zH_71 n true d 71 192 ml st t Q := by
  rw [vc_q (o := (22, 0, 192, 0, [])) (by decide +kernel)]; rfl
theorem v_71_279 (xs : Option (List Int32)) (n : Nat) (b : Bool) (d : Nat) (ml : List Value) (t : T) (Q : Option Value → T → Prop) (st : List Value) : vc xs zH_71 (n + 1) b d 71 279 ml st t Q = vga ml 0 (fun v => vc xs zH_71 n true d 71 280 ml (.ref v :: st) t Q) := by
  rw [vc_q (o := (2, 0, 0, 0, [])) (by decide +kernel)]; rfl
theorem v_71_280 (xs : Option (List Int32)) (n : Nat) (b : Bool) (d : Nat) (ml : List Value) (t : T) (Q : Option Value → T → Prop) (st : List Value) : vc xs zH_71 (n + 1) b d 71 280 ml st t Q = vgi ml 1 (fun v => vc xs zH_71 n true d 71 281 ml (.int v :: st) t Q) := by
  rw [vc_q (o := (1, 0, 1, 0, [])) (by decide +kernel)]; rfl
theorem v_71_281 (xs : Option (List Int32)) (n : Nat) (b : Bool) (d : Nat) (ml : List Value) (t : T) (Q : Option Value → T → Prop) (st : List Value) : vc xs zH_71 (n + 1) b d 71 281 ml st t Q = vc xs zH_71 n true d 71 282 ml (.int 3 :: st) t Q := by
  rw [vc_q (o := (0, 3, 0, 0, [])) (by decide +kernel)]; rfl
theorem v_71_282 (xs : Option (List Int32)) (n : Nat) (b : Bool) (d : Nat) (ml : List Value) (t : T) (Q : Option Value → T → Prop) (st : List Value) : vc xs zH_71 (n + 1) b d 71 282 ml st t Q = vc xs zH_71 n true d 71 283 ml (.int 5 :: st) t Q := by
  rw [vc_q (o := (0, 5, 0, 0, [])) (by decide +kernel)]; rfl
theorem v_71_283 (xs : Option (List Int32)) (n : Nat) (b : Bool) (d : Nat) (ml : List Value) (t : T) (Q : Option Value → T → Prop) (st : List Value) : vc xs zH_71 (n + 1) b d 71 283 ml st t Q = vgi ml 4 (fun v => vc xs zH_71 n true d 71 285 ml (.int v :: st) t Q) := by
  rw [vc_q (o := (1, 0, 4, 1, [])) (by decide +kernel)]; rfl
theorem v_71_285 (xs : Option (List Int32)) (n : Nat) (b : Bool) (d : Nat) (ml : List Value) (t : T) (Q : Option Value → T → Prop) (u v : Int32) (r : List Value) : vc xs zH_71 (n + 1) b d 71 285 ml (.int v :: .int u :: r) t Q = vc xs zH_71 n true d 71 286 ml (.int (u * v) :: r) t Q := by
  rw [vc_q (o := (8, 0, 0, 0, [])) (by decide +kernel)]; rfl
theorem v_71_286 (xs : Option (List Int32)) (n : Nat) (b : Bool) (d : Nat) (ml : List Value) (t : T) (Q : Option Value → T → Prop) (u v : Int32) (r : List Value) : vc xs zH_71 (n + 1) b d 71 286 ml (.int v :: .int u :: r) t Q = vc xs zH_71 n true d 71 287 ml (.int (u + v) :: r) t Q := by
  rw [vc_q (o := (6, 0, 0, 0, [])) (by decide +kernel)]; rfl
theorem v_71_287 (xs : Option (List Int32)) (n : Nat) (b : Bool) (d : Nat) (ml : List Value) (t : T) (Q : Option Value → T → Prop) (st : List Value) : vc xs zH_71 (n + 1) b d 71 287 ml st t Q = vgi ml 5 (fun v => vc xs zH_71 n true d 71 289 ml (.int v :: st) t Q) := by
  rw [vc_q (o := (1, 0, 5, 1, [])) (by decide +kernel)]; rfl
theorem v_71_289 (xs : Option (List Int32)) (n : Nat) (b : Bool) (d : Nat) (ml : List Value) (t : T) (Q : Option Value → T → Prop) (st : List Value) : vc xs zH_71 (n + 1) b d 71 289 ml st t Q = vc xs zH_71 n true d 71 290 ml (.int 1 :: st) t Q := by
  rw [vc_q (o := (0, 1, 0, 0, [])) (by decide +kernel)]; rfl
theorem v_71_290 (xs : Option (List Int32)) (n : Nat) (b : Bool) (d : Nat) (ml : List Value) (t : T) (Q : Option Value → T → Prop) (u v : Int32) (r : List Value) : vc xs zH_71 (n + 1) b d 71 290 ml (.int v :: .int u :: r) t Q = (if v < u then vc xs zH_71 n true d 71 293 ml r t Q else vc xs zH_71 n true d 71 297 ml r t Q) := by
  rw [vc_q (o := (20, 0, 297, 5, [])) (by decide +kernel)]; rfl
theorem v_71_293 (xs : Option (List Int32)) (n : Nat) (b : Bool) (d : Nat) (ml : List Value) (t : T) (Q : Option Value → T → Prop) (st : List Value) : vc xs zH_71 (n + 1) b d 71 293 ml st t Q = vc xs zH_71 n true d 71 294 ml (.int 1 :: st) t Q := by
  rw [vc_q (o := (0, 1, 0, 0, [])) (by decide +kernel)]; rfl
theorem v_71_294 (xs : Option (List Int32)) (n : Nat) (b : Bool) (d : Nat) (ml : List Value) (t : T) (Q : Option Value → T → Prop) (st : List Value) : vc xs zH_71 (n + 1) b d 71 294 ml st t Q = vc xs zH_71 n true d 71 298 ml st t Q := by
  rw [vc_q (o := (22, 0, 298, 0, [])) (by decide +kernel)]; rfl
theorem v_71_297 (xs : Option (List Int32)) (n : Nat) (b : Bool) (d : Nat) (ml : List Value) (t : T) (Q : Option Value → T → Prop) (st : List Value) : vc xs zH_71 (n + 1) b d 71 297 ml st t Q = vc xs zH_71 n true d 71 298 ml (.int 0 :: st) t Q := by
  rw [vc_q (o := (0, 0, 0, 0, [])) (by decide +kernel)]; rfl
theorem v_71_298 (xs : Option (List Int32)) (n : Nat) (b : Bool) (d : Nat) (ml : List Value) (t : T) (Q : Option Value → T → Prop) (st : List Value) : vc xs zH_71 (n + 1) b d 71 298 ml st t Q = (st.all zc1 = true ∧ vtk 4 st [] (fun as rest => rest.length ≤ 8 ∧ vrc as 12 (twc d 39 as t (fun r t' => vc xs zH_71 n true d 71 301 ml (r.toList ++ rest) t' Q)))) := by
  rw [vc_q (o := (36, 0, 39, 3, [(0, 12)])) (by decide +kernel)]; rfl
theorem v_71_301 (xs : Option (List Int32)) (n : Nat) (b : Bool) (d : Nat) (ml : List Value) (t : T) (Q : Option Value → T → Prop) (st : List Value) : vc xs zH_71 (n + 1) b d 71 301 ml st t Q = vc xs zH_71 n true d 71 302 ml (.int 0 :: st) t Q := by
  rw [vc_q (o := (0, 0, 0, 0, [])) (by decide +kernel)]; rfl
theorem v_71_302 (xs : Option (List Int32)) (n : Nat) (b : Bool) (d : Nat) (ml : List Value) (t : T) (Q : Option Value → T → Prop) (v : Int32) (r : List Value) : vc xs zH_71 (n + 1) b d 71 302 ml (.int v :: r) t Q = vset ml 6 (.int v) (fun l => vc xs zH_71 n true d 71 304 l r t Q) := by
  rw [vc_q (o := (3, 0, 6, 1, [])) (by decide +kernel)]; rfl
theorem v_71_304 (xs : Option (List Int32)) (n : Nat) (d : Nat) (ml : List Value) (t : T) (Q : Option Value → T → Prop) (st : List Value) : vc xs zH_71 (n + 1) false d 71 304 ml st t Q = vgi ml 6 (fun v => vc xs zH_71 n true d 71 306 ml (.int v :: st) t Q) := by
  rw [vc_q (o := (1, 0, 6, 1, [])) (by decide +kernel)]; rfl
theorem h_71_304 (xs : Option (List Int32)) (n d : Nat) (ml st : List Value) (t : T) (Q : Option Value → T → Prop) : vc xs zH_71 (n + 1) true d 71 304 ml st t Q = twp xs d 71 304 ml st t Q := id rfl
theorem v_71_306 (xs : Option (List Int32)) (n : Nat) (b : Bool) (d : Nat) (ml : List Value) (t : T) (Q : Option Value → T → Prop) (st : List Value) : vc xs zH_71 (n + 1) b d 71 306 ml st t Q = vgi ml 3 (fun v => vc xs zH_71 n true d 71 307 ml (.int v :: st) t Q) := by
  rw [vc_q (o := (1, 0, 3, 0, [])) (by decide +kernel)]; rfl
theorem v_71_307 (xs : Option (List Int32)) (n : Nat) (b : Bool) (d : Nat) (ml : List Value) (t : T) (Q : Option Value → T → Prop) (u v : Int32) (r : List Value) : vc xs zH_71 (n + 1) b d 71 307 ml (.int v :: .int u :: r) t Q = (if u < v then vc xs zH_71 n true d 71 310 ml r t Q else vc xs zH_71 n true d 71 366 ml r t Q) := by
  rw [vc_q (o := (20, 0, 366, 3, [])) (by decide +kernel)]; rfl
theorem v_71_310 (xs : Option (List Int32)) (n : Nat) (b : Bool) (d : Nat) (ml : List Value) (t : T) (Q : Option Value → T → Prop) (st : List Value) : vc xs zH_71 (n + 1) b d 71 310 ml st t Q = vga ml 0 (fun v => vc xs zH_71 n true d 71 311 ml (.ref v :: st) t Q) := by
  rw [vc_q (o := (2, 0, 0, 0, [])) (by decide +kernel)]; rfl
theorem v_71_311 (xs : Option (List Int32)) (n : Nat) (b : Bool) (d : Nat) (ml : List Value) (t : T) (Q : Option Value → T → Prop) (st : List Value) : vc xs zH_71 (n + 1) b d 71 311 ml st t Q = vgi ml 1 (fun v => vc xs zH_71 n true d 71 312 ml (.int v :: st) t Q) := by
  rw [vc_q (o := (1, 0, 1, 0, [])) (by decide +kernel)]; rfl
theorem v_71_312 (xs : Option (List Int32)) (n : Nat) (b : Bool) (d : Nat) (ml : List Value) (t : T) (Q : Option Value → T → Prop) (st : List Value) : vc xs zH_71 (n + 1) b d 71 312 ml st t Q = vc xs zH_71 n true d 71 314 ml (.int 6 :: st) t Q := by
  rw [vc_q (o := (0, 6, 1, 0, [])) (by decide +kernel)]; rfl
theorem v_71_314 (xs : Option (List Int32)) (n : Nat) (b : Bool) (d : Nat) (ml : List Value) (t : T) (Q : Option Value → T → Prop) (st : List Value) : vc xs zH_71 (n + 1) b d 71 314 ml st t Q = vgi ml 4 (fun v => vc xs zH_71 n true d 71 316 ml (.int v :: st) t Q) := by
  rw [vc_q (o := (1, 0, 4, 1, [])) (by decide +kernel)]; rfl
theorem v_71_316 (xs : Option (List Int32)) (n : Nat) (b : Bool) (d : Nat) (ml : List Value) (t : T) (Q : Option Value → T → Prop) (st : List Value) : vc xs zH_71 (n + 1) b d 71 316 ml st t Q = vgi ml 6 (fun v => vc xs zH_71 n true d 71 318 ml (.int v :: st) t Q) := by
  rw [vc_q (o := (1, 0, 6, 1, [])) (by decide +kernel)]; rfl
theorem v_71_318 (xs : Option (List Int32)) (n : Nat) (b : Bool) (d : Nat) (ml : List Value) (t : T) (Q : Option Value → T → Prop) (st : List Value) : vc xs zH_71 (n + 1) b d 71 318 ml st t Q = (st.all zc1 = true ∧ vtk 3 st [] (fun as rest => rest.length ≤ 8 ∧ twc d 41 as t (fun r t' => vc xs zH_71 n true d 71 321 ml (r.toList ++ rest) t' Q))) := by
  rw [vc_q (o := (37, 0, 41, 3, [])) (by decide +kernel)]; rfl
theorem v_71_321 (xs : Option (List Int32)) (n : Nat) (b : Bool) (d : Nat) (ml : List Value) (t : T) (Q : Option Value → T → Prop) (st : List Value) : vc xs zH_71 (n + 1) b d 71 321 ml st t Q = vga ml 0 (fun v => vc xs zH_71 n true d 71 322 ml (.ref v :: st) t Q) := by
  rw [vc_q (o := (2, 0, 0, 0, [])) (by decide +kernel)]; rfl
theorem v_71_322 (xs : Option (List Int32)) (n : Nat) (b : Bool) (d : Nat) (ml : List Value) (t : T) (Q : Option Value → T → Prop) (st : List Value) : vc xs zH_71 (n + 1) b d 71 322 ml st t Q = vc xs zH_71 n true d 71 324 ml (.int 6 :: st) t Q := by
  rw [vc_q (o := (0, 6, 1, 0, [])) (by decide +kernel)]; rfl
theorem v_71_324 (xs : Option (List Int32)) (n : Nat) (b : Bool) (d : Nat) (ml : List Value) (t : T) (Q : Option Value → T → Prop) (st : List Value) : vc xs zH_71 (n + 1) b d 71 324 ml st t Q = vgi ml 4 (fun v => vc xs zH_71 n true d 71 326 ml (.int v :: st) t Q) := by
  rw [vc_q (o := (1, 0, 4, 1, [])) (by decide +kernel)]; rfl
theorem v_71_326 (xs : Option (List Int32)) (n : Nat) (b : Bool) (d : Nat) (ml : List Value) (t : T) (Q : Option Value → T → Prop) (st : List Value) : vc xs zH_71 (n + 1) b d 71 326 ml st t Q = vgi ml 6 (fun v => vc xs zH_71 n true d 71 328 ml (.int v :: st) t Q) := by
  rw [vc_q (o := (1, 0, 6, 1, [])) (by decide +kernel)]; rfl
theorem v_71_328 (xs : Option (List Int32)) (n : Nat) (b : Bool) (d : Nat) (ml : List Value) (t : T) (Q : Option Value → T → Prop) (st : List Value) : vc xs zH_71 (n + 1) b d 71 328 ml st t Q = vgi ml 2 (fun v => vc xs zH_71 n true d 71 329 ml (.int v :: st) t Q) := by
  rw [vc_q (o := (1, 0, 2, 0, [])) (by decide +kernel)]; rfl
theorem v_71_329 (xs : Option (List Int32)) (n : Nat) (b : Bool) (d : Nat) (ml : List Value) (t : T) (Q : Option Value → T → Prop) (st : List Value) : vc xs zH_71 (n + 1) b d 71 329 ml st t Q = (st.all zc1 = true ∧ vtk 5 st [] (fun as rest => rest.length ≤ 8 ∧ vrc as 12 (twc d 72 as t (fun r t' => vc xs zH_71 n true d 71 332 ml (r.toList ++ rest) t' Q)))) := by
  rw [vc_q (o := (36, 0, 72, 4, [(0, 12)])) (by decide +kernel)]; rfl
theorem v_71_332 (xs : Option (List Int32)) (n : Nat) (b : Bool) (d : Nat) (ml : List Value) (t : T) (Q : Option Value → T → Prop) (st : List Value) : vc xs zH_71 (n + 1) b d 71 332 ml st t Q = (st.all zc1 = true ∧ vtk 4 st [] (fun as rest => rest.length ≤ 8 ∧ vrc as 12 (twc d 39 as t (fun r t' => vc xs zH_71 n true d 71 335 ml (r.toList ++ rest) t' Q)))) := by
  rw [vc_q (o := (36, 0, 39, 3, [(0, 12)])) (by decide +kernel)]; rfl
theorem v_71_335 (xs : Option (List Int32)) (n : Nat) (b : Bool) (d : Nat) (ml : List Value) (t : T) (Q : Option Value → T → Prop) (st : List Value) : vc xs zH_71 (n + 1) b d 71 335 ml st t Q = vga ml 0 (fun v => vc xs zH_71 n true d 71 336 ml (.ref v :: st) t Q) := by
  rw [vc_q (o := (2, 0, 0, 0, [])) (by decide +kernel)]; rfl
theorem v_71_336 (xs : Option (List Int32)) (n : Nat) (b : Bool) (d : Nat) (ml : List Value) (t : T) (Q : Option Value → T → Prop) (st : List Value) : vc xs zH_71 (n + 1) b d 71 336 ml st t Q = vgi ml 1 (fun v => vc xs zH_71 n true d 71 337 ml (.int v :: st) t Q) := by
  rw [vc_q (o := (1, 0, 1, 0, [])) (by decide +kernel)]; rfl
theorem v_71_337 (xs : Option (List Int32)) (n : Nat) (b : Bool) (d : Nat) (ml : List Value) (t : T) (Q : Option Value → T → Prop) (st : List Value) : vc xs zH_71 (n + 1) b d 71 337 ml st t Q = vc xs zH_71 n true d 71 339 ml (.int 7 :: st) t Q := by
  rw [vc_q (o := (0, 7, 1, 0, [])) (by decide +kernel)]; rfl
theorem v_71_339 (xs : Option (List Int32)) (n : Nat) (b : Bool) (d : Nat) (ml : List Value) (t : T) (Q : Option Value → T → Prop) (st : List Value) : vc xs zH_71 (n + 1) b d 71 339 ml st t Q = vgi ml 4 (fun v => vc xs zH_71 n true d 71 341 ml (.int v :: st) t Q) := by
  rw [vc_q (o := (1, 0, 4, 1, [])) (by decide +kernel)]; rfl
theorem v_71_341 (xs : Option (List Int32)) (n : Nat) (b : Bool) (d : Nat) (ml : List Value) (t : T) (Q : Option Value → T → Prop) (st : List Value) : vc xs zH_71 (n + 1) b d 71 341 ml st t Q = vgi ml 6 (fun v => vc xs zH_71 n true d 71 343 ml (.int v :: st) t Q) := by
  rw [vc_q (o := (1, 0, 6, 1, [])) (by decide +kernel)]; rfl
theorem v_71_343 (xs : Option (List Int32)) (n : Nat) (b : Bool) (d : Nat) (ml : List Value) (t : T) (Q : Option Value → T → Prop) (st : List Value) : vc xs zH_71 (n + 1) b d 71 343 ml st t Q = (st.all zc1 = true ∧ vtk 3 st [] (fun as rest => rest.length ≤ 8 ∧ twc d 41 as t (fun r t' => vc xs zH_71 n true d 71 346 ml (r.toList ++ rest) t' Q))) := by
  rw [vc_q (o := (37, 0, 41, 3, [])) (by decide +kernel)]; rfl
theorem v_71_346 (xs : Option (List Int32)) (n : Nat) (b : Bool) (d : Nat) (ml : List Value) (t : T) (Q : Option Value → T → Prop) (st : List Value) : vc xs zH_71 (n + 1) b d 71 346 ml st t Q = vga ml 0 (fun v => vc xs zH_71 n true d 71 347 ml (.ref v :: st) t Q) := by
  rw [vc_q (o := (2, 0, 0, 0, [])) (by decide +kernel)]; rfl
theorem v_71_347 (xs : Option (List Int32)) (n : Nat) (b : Bool) (d : Nat) (ml : List Value) (t : T) (Q : Option Value → T → Prop) (st : List Value) : vc xs zH_71 (n + 1) b d 71 347 ml st t Q = vc xs zH_71 n true d 71 349 ml (.int 7 :: st) t Q := by
  rw [vc_q (o := (0, 7, 1, 0, [])) (by decide +kernel)]; rfl
theorem v_71_349 (xs : Option (List Int32)) (n : Nat) (b : Bool) (d : Nat) (ml : List Value) (t : T) (Q : Option Value → T → Prop) (st : List Value) : vc xs zH_71 (n + 1) b d 71 349 ml st t Q = vgi ml 4 (fun v => vc xs zH_71 n true d 71 351 ml (.int v :: st) t Q) := by
  rw [vc_q (o := (1, 0, 4, 1, [])) (by decide +kernel)]; rfl
theorem v_71_351 (xs : Option (List Int32)) (n : Nat) (b : Bool) (d : Nat) (ml : List Value) (t : T) (Q : Option Value → T → Prop) (st : List Value) : vc xs zH_71 (n + 1) b d 71 351 ml st t Q = vgi ml 6 (fun v => vc xs zH_71 n true d 71 353 ml (.int v :: st) t Q) := by
  rw [vc_q (o := (1, 0, 6, 1, [])) (by decide +kernel)]; rfl
theorem v_71_353 (xs : Option (List Int32)) (n : Nat) (b : Bool) (d : Nat) (ml : List Value) (t : T) (Q : Option Value → T → Prop) (st : List Value) : vc xs zH_71 (n + 1) b d 71 353 ml st t Q = vgi ml 2 (fun v => vc xs zH_71 n true d 71 354 ml (.int v :: st) t Q) := by
  rw [vc_q (o := (1, 0, 2, 0, [])) (by decide +kernel)]; rfl
theorem v_71_354 (xs : Option (List Int32)) (n : Nat) (b : Bool) (d : Nat) (ml : List Value) (t : T) (Q : Option Value → T → Prop) (st : List Value) : vc xs zH_71 (n + 1) b d 71 354 ml st t Q = (st.all zc1 = true ∧ vtk 5 st [] (fun as rest => rest.length ≤ 8 ∧ vrc as 12 (twc d 72 as t (fun r t' => vc xs zH_71 n true d 71 357 ml (r.toList ++ rest) t' Q)))) := by
  rw [vc_q (o := (36, 0, 72, 4, [(0, 12)])) (by decide +kernel)]; rfl
theorem v_71_357 (xs : Option (List Int32)) (n : Nat) (b : Bool) (d : Nat) (ml : List Value) (t : T) (Q : Option Value → T → Prop) (st : List Value) : vc xs zH_71 (n + 1) b d 71 357 ml st t Q = (st.all zc1 = true ∧ vtk 4 st [] (fun as rest => rest.length ≤ 8 ∧ vrc as 12 (twc d 39 as t (fun r t' => vc xs zH_71 n true d 71 360 ml (r.toList ++ rest) t' Q)))) := by
  rw [vc_q (o := (36, 0, 39, 3, [(0, 12)])) (by decide +kernel)]; rfl
theorem v_71_360 (xs : Option (List Int32)) (n : Nat) (b : Bool) (d : Nat) (ml : List Value) (t : T) (Q : Option Value → T → Prop) (st : List Value) : vc xs zH_71 (n + 1) b d 71 360 ml st t Q = vgi ml 6 (fun v => vset ml 6 (.int (v + 1)) (fun l => vc xs zH_71 n true d 71 363 l st t Q)) := by
  rw [vc_q (o := (5, 1, 6, 0, [])) (by decide +kernel)]; rfl
theorem v_71_363 (xs : Option (List Int32)) (n : Nat) (b : Bool) (d : Nat) (ml : List Value) (t : T) (Q : Option Value → T → Prop) (st : List Value) : vc xs zH_71 (n + 1) b d 71 363 ml st t Q = vc xs zH_71 n true d 71 304 ml st t Q := by
  rw [vc_q (o := (22, 0, 304, 0, [])) (by decide +kernel)]; rfl
theorem v_71_366 (xs : Option (List Int32)) (n : Nat) (b : Bool) (d : Nat) (ml : List Value) (t : T) (Q : Option Value → T → Prop) (st : List Value) : vc xs zH_71 (n + 1) b d 71 366 ml st t Q = vgi ml 4 (fun v => vset ml 4 (.int (v + 1)) (fun l => vc xs zH_71 n true d 71 369 l st t Q)) := by
  rw [vc_q (o := (5, 1, 4, 0, [])) (by decide +kernel)]; rfl
theorem v_71_369 (xs : Option (List Int32)) (n : Nat) (b : Bool) (d : Nat) (ml : List Value) (t : T) (Q : Option Value → T → Prop) (st : List Value) : vc xs zH_71 (n + 1) b d 71 369 ml st t Q = vc xs zH_71 n true d 71 180 ml st t Q := by
  rw [vc_q (o := (22, 0, 180, 0, [])) (by decide +kernel)]; rfl
theorem v_71_372 (xs : Option (List Int32)) (n : Nat) (b : Bool) (d : Nat) (ml : List Value) (t : T) (Q : Option Value → T → Prop)  : vc xs zH_71 (n + 1) b d 71 372 ml [] t Q = Q none t := by
  rw [vc_q (o := (43, 0, 0, 0, [])) (by decide +kernel)]; rfl
def zH_72 : List Nat := [6, 16]
theorem v_72_0 (xs : Option (List Int32)) (n : Nat) (b : Bool) (d : Nat) (ml : List Value) (t : T) (Q : Option Value → T → Prop) (st : List Value) : vc xs zH_72 (n + 1) b d 72 0 ml st t Q = vc xs zH_72 n true d 72 1 ml (.int (-1) :: st) t Q := by
  rw [vc_q (o := (0, (-1), 0, 0, [])) (by decide +kernel)]; rfl
theorem v_72_1 (xs : Option (List Int32)) (n : Nat) (b : Bool) (d : Nat) (ml : List Value) (t : T) (Q : Option Value → T → Prop) (v : Int32) (r : List Value) : vc xs zH_72 (n + 1) b d 72 1 ml (.int v :: r) t Q = vset ml 5 (.int v) (fun l => vc xs zH_72 n true d 72 3 l r t Q) := by
  rw [vc_q (o := (3, 0, 5, 1, [])) (by decide +kernel)]; rfl
theorem v_72_3 (xs : Option (List Int32)) (n : Nat) (b : Bool) (d : Nat) (ml : List Value) (t : T) (Q : Option Value → T → Prop) (st : List Value) : vc xs zH_72 (n + 1) b d 72 3 ml st t Q = vc xs zH_72 n true d 72 4 ml (.int 0 :: st) t Q := by
  rw [vc_q (o := (0, 0, 0, 0, [])) (by decide +kernel)]; rfl
theorem v_72_4 (xs : Option (List Int32)) (n : Nat) (b : Bool) (d : Nat) (ml : List Value) (t : T) (Q : Option Value → T → Prop) (v : Int32) (r : List Value) : vc xs zH_72 (n + 1) b d 72 4 ml (.int v :: r) t Q = vset ml 6 (.int v) (fun l => vc xs zH_72 n true d 72 6 l r t Q) := by
  rw [vc_q (o := (3, 0, 6, 1, [])) (by decide +kernel)]; rfl
theorem v_72_6 (xs : Option (List Int32)) (n : Nat) (d : Nat) (ml : List Value) (t : T) (Q : Option Value → T → Prop) (st : List Value) : vc xs zH_72 (n + 1) false d 72 6 ml st t Q = vgi ml 6 (fun v => vc xs zH_72 n true d 72 8 ml (.int v :: st) t Q) := by
  rw [vc_q (o := (1, 0, 6, 1, [])) (by decide +kernel)]; rfl
theorem h_72_6 (xs : Option (List Int32)) (n d : Nat) (ml st : List Value) (t : T) (Q : Option Value → T → Prop) : vc xs zH_72 (n + 1) true d 72 6 ml st t Q = twp xs d 72 6 ml st t Q := id rfl
theorem v_72_8 (xs : Option (List Int32)) (n : Nat) (b : Bool) (d : Nat) (ml : List Value) (t : T) (Q : Option Value → T → Prop) (st : List Value) : vc xs zH_72 (n + 1) b d 72 8 ml st t Q = vgi ml 4 (fun v => vc xs zH_72 n true d 72 10 ml (.int v :: st) t Q) := by
  rw [vc_q (o := (1, 0, 4, 1, [])) (by decide +kernel)]; rfl
theorem v_72_10 (xs : Option (List Int32)) (n : Nat) (b : Bool) (d : Nat) (ml : List Value) (t : T) (Q : Option Value → T → Prop) (u v : Int32) (r : List Value) : vc xs zH_72 (n + 1) b d 72 10 ml (.int v :: .int u :: r) t Q = (if u < v then vc xs zH_72 n true d 72 13 ml r t Q else vc xs zH_72 n true d 72 96 ml r t Q) := by
  rw [vc_q (o := (20, 0, 96, 3, [])) (by decide +kernel)]; rfl
theorem v_72_13 (xs : Option (List Int32)) (n : Nat) (b : Bool) (d : Nat) (ml : List Value) (t : T) (Q : Option Value → T → Prop) (st : List Value) : vc xs zH_72 (n + 1) b d 72 13 ml st t Q = vc xs zH_72 n true d 72 14 ml (.int 0 :: st) t Q := by
  rw [vc_q (o := (0, 0, 0, 0, [])) (by decide +kernel)]; rfl
theorem v_72_14 (xs : Option (List Int32)) (n : Nat) (b : Bool) (d : Nat) (ml : List Value) (t : T) (Q : Option Value → T → Prop) (v : Int32) (r : List Value) : vc xs zH_72 (n + 1) b d 72 14 ml (.int v :: r) t Q = vset ml 7 (.int v) (fun l => vc xs zH_72 n true d 72 16 l r t Q) := by
  rw [vc_q (o := (3, 0, 7, 1, [])) (by decide +kernel)]; rfl
theorem v_72_16 (xs : Option (List Int32)) (n : Nat) (d : Nat) (ml : List Value) (t : T) (Q : Option Value → T → Prop) (st : List Value) : vc xs zH_72 (n + 1) false d 72 16 ml st t Q = vgi ml 7 (fun v => vc xs zH_72 n true d 72 18 ml (.int v :: st) t Q) := by
  rw [vc_q (o := (1, 0, 7, 1, [])) (by decide +kernel)]; rfl
theorem h_72_16 (xs : Option (List Int32)) (n d : Nat) (ml st : List Value) (t : T) (Q : Option Value → T → Prop) : vc xs zH_72 (n + 1) true d 72 16 ml st t Q = twp xs d 72 16 ml st t Q := id rfl
theorem v_72_18 (xs : Option (List Int32)) (n : Nat) (b : Bool) (d : Nat) (ml : List Value) (t : T) (Q : Option Value → T → Prop) (st : List Value) : vc xs zH_72 (n + 1) b d 72 18 ml st t Q = vgi ml 4 (fun v => vc xs zH_72 n true d 72 20 ml (.int v :: st) t Q) := by
  rw [vc_q (o := (1, 0, 4, 1, [])) (by decide +kernel)]; rfl
theorem v_72_20 (xs : Option (List Int32)) (n : Nat) (b : Bool) (d : Nat) (ml : List Value) (t : T) (Q : Option Value → T → Prop) (u v : Int32) (r : List Value) : vc xs zH_72 (n + 1) b d 72 20 ml (.int v :: .int u :: r) t Q = (if u < v then vc xs zH_72 n true d 72 23 ml r t Q else vc xs zH_72 n true d 72 90 ml r t Q) := by
  rw [vc_q (o := (20, 0, 90, 3, [])) (by decide +kernel)]; rfl
theorem v_72_23 (xs : Option (List Int32)) (n : Nat) (b : Bool) (d : Nat) (ml : List Value) (t : T) (Q : Option Value → T → Prop) (st : List Value) : vc xs zH_72 (n + 1) b d 72 23 ml st t Q = vga ml 0 (fun v => vc xs zH_72 n true d 72 24 ml (.ref v :: st) t Q) := by
  rw [vc_q (o := (2, 0, 0, 0, [])) (by decide +kernel)]; rfl
theorem v_72_24 (xs : Option (List Int32)) (n : Nat) (b : Bool) (d : Nat) (ml : List Value) (t : T) (Q : Option Value → T → Prop) (u : Nat) (r : List Value) : vc xs zH_72 (n + 1) b d 72 24 ml (.ref u :: r) t Q = (vtag u = 12 ∧ vc xs zH_72 n true d 72 27 ml (.ref (tref t u 36) :: r) t Q) := by
  rw [vc_q (o := (25, 0, 12, 36, [])) (by decide +kernel)]; rfl
theorem v_72_27 (xs : Option (List Int32)) (n : Nat) (b : Bool) (d : Nat) (ml : List Value) (t : T) (Q : Option Value → T → Prop) (st : List Value) : vc xs zH_72 (n + 1) b d 72 27 ml st t Q = vgi ml 6 (fun v => vc xs zH_72 n true d 72 29 ml (.int v :: st) t Q) := by
  rw [vc_q (o := (1, 0, 6, 1, [])) (by decide +kernel)]; rfl
theorem v_72_29 (xs : Option (List Int32)) (n : Nat) (b : Bool) (d : Nat) (ml : List Value) (t : T) (Q : Option Value → T → Prop) (v : Int32) (u : Nat) (r : List Value) : vc xs zH_72 (n + 1) b d 72 29 ml (.int v :: .ref u :: r) t Q = (vtag u = 100 ∧ vinb v (vlen u) ∧ vc xs zH_72 n true d 72 30 ml (.int (t.1 u v.toNatClampNeg) :: r) t Q) := by
  rw [vc_q (o := (29, 0, 0, 0, [])) (by decide +kernel)]; rfl
theorem v_72_30 (xs : Option (List Int32)) (n : Nat) (b : Bool) (d : Nat) (ml : List Value) (t : T) (Q : Option Value → T → Prop) (st : List Value) : vc xs zH_72 (n + 1) b d 72 30 ml st t Q = vgi ml 2 (fun v => vc xs zH_72 n true d 72 31 ml (.int v :: st) t Q) := by
  rw [vc_q (o := (1, 0, 2, 0, [])) (by decide +kernel)]; rfl
theorem v_72_31 (xs : Option (List Int32)) (n : Nat) (b : Bool) (d : Nat) (ml : List Value) (t : T) (Q : Option Value → T → Prop) (u v : Int32) (r : List Value) : vc xs zH_72 (n + 1) b d 72 31 ml (.int v :: .int u :: r) t Q = (if u = v then vc xs zH_72 n true d 72 34 ml r t Q else vc xs zH_72 n true d 72 84 ml r t Q) := by
  rw [vc_q (o := (20, 0, 84, 1, [])) (by decide +kernel)]; rfl
theorem v_72_34 (xs : Option (List Int32)) (n : Nat) (b : Bool) (d : Nat) (ml : List Value) (t : T) (Q : Option Value → T → Prop) (st : List Value) : vc xs zH_72 (n + 1) b d 72 34 ml st t Q = vga ml 0 (fun v => vc xs zH_72 n true d 72 35 ml (.ref v :: st) t Q) := by
  rw [vc_q (o := (2, 0, 0, 0, [])) (by decide +kernel)]; rfl
theorem v_72_35 (xs : Option (List Int32)) (n : Nat) (b : Bool) (d : Nat) (ml : List Value) (t : T) (Q : Option Value → T → Prop) (u : Nat) (r : List Value) : vc xs zH_72 (n + 1) b d 72 35 ml (.ref u :: r) t Q = (vtag u = 12 ∧ vc xs zH_72 n true d 72 38 ml (.ref (tref t u 36) :: r) t Q) := by
  rw [vc_q (o := (25, 0, 12, 36, [])) (by decide +kernel)]; rfl
theorem v_72_38 (xs : Option (List Int32)) (n : Nat) (b : Bool) (d : Nat) (ml : List Value) (t : T) (Q : Option Value → T → Prop) (st : List Value) : vc xs zH_72 (n + 1) b d 72 38 ml st t Q = vgi ml 7 (fun v => vc xs zH_72 n true d 72 40 ml (.int v :: st) t Q) := by
  rw [vc_q (o := (1, 0, 7, 1, [])) (by decide +kernel)]; rfl
theorem v_72_40 (xs : Option (List Int32)) (n : Nat) (b : Bool) (d : Nat) (ml : List Value) (t : T) (Q : Option Value → T → Prop) (v : Int32) (u : Nat) (r : List Value) : vc xs zH_72 (n + 1) b d 72 40 ml (.int v :: .ref u :: r) t Q = (vtag u = 100 ∧ vinb v (vlen u) ∧ vc xs zH_72 n true d 72 41 ml (.int (t.1 u v.toNatClampNeg) :: r) t Q) := by
  rw [vc_q (o := (29, 0, 0, 0, [])) (by decide +kernel)]; rfl
theorem v_72_41 (xs : Option (List Int32)) (n : Nat) (b : Bool) (d : Nat) (ml : List Value) (t : T) (Q : Option Value → T → Prop) (st : List Value) : vc xs zH_72 (n + 1) b d 72 41 ml st t Q = vgi ml 3 (fun v => vc xs zH_72 n true d 72 42 ml (.int v :: st) t Q) := by
  rw [vc_q (o := (1, 0, 3, 0, [])) (by decide +kernel)]; rfl
theorem v_72_42 (xs : Option (List Int32)) (n : Nat) (b : Bool) (d : Nat) (ml : List Value) (t : T) (Q : Option Value → T → Prop) (u v : Int32) (r : List Value) : vc xs zH_72 (n + 1) b d 72 42 ml (.int v :: .int u :: r) t Q = (if u = v then vc xs zH_72 n true d 72 45 ml r t Q else vc xs zH_72 n true d 72 84 ml r t Q) := by
  rw [vc_q (o := (20, 0, 84, 1, [])) (by decide +kernel)]; rfl
theorem v_72_45 (xs : Option (List Int32)) (n : Nat) (b : Bool) (d : Nat) (ml : List Value) (t : T) (Q : Option Value → T → Prop) (st : List Value) : vc xs zH_72 (n + 1) b d 72 45 ml st t Q = vgi ml 5 (fun v => vc xs zH_72 n true d 72 47 ml (.int v :: st) t Q) := by
  rw [vc_q (o := (1, 0, 5, 1, [])) (by decide +kernel)]; rfl
theorem v_72_47 (xs : Option (List Int32)) (n : Nat) (b : Bool) (d : Nat) (ml : List Value) (t : T) (Q : Option Value → T → Prop) (u : Int32) (r : List Value) : vc xs zH_72 (n + 1) b d 72 47 ml (.int u :: r) t Q = (if u < 0 then vc xs zH_72 n true d 72 50 ml r t Q else vc xs zH_72 n true d 72 65 ml r t Q) := by
  rw [vc_q (o := (21, 0, 65, 3, [])) (by decide +kernel)]; rfl
theorem v_72_50 (xs : Option (List Int32)) (n : Nat) (b : Bool) (d : Nat) (ml : List Value) (t : T) (Q : Option Value → T → Prop) (st : List Value) : vc xs zH_72 (n + 1) b d 72 50 ml st t Q = vga ml 0 (fun v => vc xs zH_72 n true d 72 51 ml (.ref v :: st) t Q) := by
  rw [vc_q (o := (2, 0, 0, 0, [])) (by decide +kernel)]; rfl
theorem v_72_51 (xs : Option (List Int32)) (n : Nat) (b : Bool) (d : Nat) (ml : List Value) (t : T) (Q : Option Value → T → Prop) (st : List Value) : vc xs zH_72 (n + 1) b d 72 51 ml st t Q = vc xs zH_72 n true d 72 54 ml (.int 182 :: st) t Q := by
  rw [vc_q (o := (0, 182, 2, 0, [])) (by decide +kernel)]; rfl
theorem v_72_54 (xs : Option (List Int32)) (n : Nat) (b : Bool) (d : Nat) (ml : List Value) (t : T) (Q : Option Value → T → Prop) (st : List Value) : vc xs zH_72 (n + 1) b d 72 54 ml st t Q = vgi ml 1 (fun v => vc xs zH_72 n true d 72 55 ml (.int v :: st) t Q) := by
  rw [vc_q (o := (1, 0, 1, 0, [])) (by decide +kernel)]; rfl
theorem v_72_55 (xs : Option (List Int32)) (n : Nat) (b : Bool) (d : Nat) (ml : List Value) (t : T) (Q : Option Value → T → Prop) (st : List Value) : vc xs zH_72 (n + 1) b d 72 55 ml st t Q = vgi ml 6 (fun v => vc xs zH_72 n true d 72 57 ml (.int v :: st) t Q) := by
  rw [vc_q (o := (1, 0, 6, 1, [])) (by decide +kernel)]; rfl
theorem v_72_57 (xs : Option (List Int32)) (n : Nat) (b : Bool) (d : Nat) (ml : List Value) (t : T) (Q : Option Value → T → Prop) (st : List Value) : vc xs zH_72 (n + 1) b d 72 57 ml st t Q = vgi ml 7 (fun v => vc xs zH_72 n true d 72 59 ml (.int v :: st) t Q) := by
  rw [vc_q (o := (1, 0, 7, 1, [])) (by decide +kernel)]; rfl
theorem v_72_59 (xs : Option (List Int32)) (n : Nat) (b : Bool) (d : Nat) (ml : List Value) (t : T) (Q : Option Value → T → Prop) (st : List Value) : vc xs zH_72 (n + 1) b d 72 59 ml st t Q = (st.all zc1 = true ∧ vtk 5 st [] (fun as rest => rest.length ≤ 8 ∧ vrc as 12 (twc d 43 as t (fun r t' => vc xs zH_72 n true d 72 62 ml (r.toList ++ rest) t' Q)))) := by
  rw [vc_q (o := (36, 0, 43, 4, [(0, 12)])) (by decide +kernel)]; rfl
theorem v_72_62 (xs : Option (List Int32)) (n : Nat) (b : Bool) (d : Nat) (ml : List Value) (t : T) (Q : Option Value → T → Prop) (st : List Value) : vc xs zH_72 (n + 1) b d 72 62 ml st t Q = vc xs zH_72 n true d 72 82 ml st t Q := by
  rw [vc_q (o := (22, 0, 82, 0, [])) (by decide +kernel)]; rfl
theorem v_72_65 (xs : Option (List Int32)) (n : Nat) (b : Bool) (d : Nat) (ml : List Value) (t : T) (Q : Option Value → T → Prop) (st : List Value) : vc xs zH_72 (n + 1) b d 72 65 ml st t Q = vgi ml 5 (fun v => vc xs zH_72 n true d 72 67 ml (.int v :: st) t Q) := by
  rw [vc_q (o := (1, 0, 5, 1, [])) (by decide +kernel)]; rfl
theorem v_72_67 (xs : Option (List Int32)) (n : Nat) (b : Bool) (d : Nat) (ml : List Value) (t : T) (Q : Option Value → T → Prop) (st : List Value) : vc xs zH_72 (n + 1) b d 72 67 ml st t Q = vga ml 0 (fun v => vc xs zH_72 n true d 72 68 ml (.ref v :: st) t Q) := by
  rw [vc_q (o := (2, 0, 0, 0, [])) (by decide +kernel)]; rfl
theorem v_72_68 (xs : Option (List Int32)) (n : Nat) (b : Bool) (d : Nat) (ml : List Value) (t : T) (Q : Option Value → T → Prop) (st : List Value) : vc xs zH_72 (n + 1) b d 72 68 ml st t Q = vc xs zH_72 n true d 72 71 ml (.int 182 :: st) t Q := by
  rw [vc_q (o := (0, 182, 2, 0, [])) (by decide +kernel)]; rfl
theorem v_72_71 (xs : Option (List Int32)) (n : Nat) (b : Bool) (d : Nat) (ml : List Value) (t : T) (Q : Option Value → T → Prop) (st : List Value) : vc xs zH_72 (n + 1) b d 72 71 ml st t Q = vgi ml 1 (fun v => vc xs zH_72 n true d 72 72 ml (.int v :: st) t Q) := by
  rw [vc_q (o := (1, 0, 1, 0, [])) (by decide +kernel)]; rfl
theorem v_72_72 (xs : Option (List Int32)) (n : Nat) (b : Bool) (d : Nat) (ml : List Value) (t : T) (Q : Option Value → T → Prop) (st : List Value) : vc xs zH_72 (n + 1) b d 72 72 ml st t Q = vgi ml 6 (fun v => vc xs zH_72 n true d 72 74 ml (.int v :: st) t Q) := by
  rw [vc_q (o := (1, 0, 6, 1, [])) (by decide +kernel)]; rfl
theorem v_72_74 (xs : Option (List Int32)) (n : Nat) (b : Bool) (d : Nat) (ml : List Value) (t : T) (Q : Option Value → T → Prop) (st : List Value) : vc xs zH_72 (n + 1) b d 72 74 ml st t Q = vgi ml 7 (fun v => vc xs zH_72 n true d 72 76 ml (.int v :: st) t Q) := by
  rw [vc_q (o := (1, 0, 7, 1, [])) (by decide +kernel)]; rfl
theorem v_72_76 (xs : Option (List Int32)) (n : Nat) (b : Bool) (d : Nat) (ml : List Value) (t : T) (Q : Option Value → T → Prop) (st : List Value) : vc xs zH_72 (n + 1) b d 72 76 ml st t Q = (st.all zc1 = true ∧ vtk 5 st [] (fun as rest => rest.length ≤ 8 ∧ vrc as 12 (twc d 43 as t (fun r t' => vc xs zH_72 n true d 72 79 ml (r.toList ++ rest) t' Q)))) := by
  rw [vc_q (o := (36, 0, 43, 4, [(0, 12)])) (by decide +kernel)]; rfl
theorem v_72_79 (xs : Option (List Int32)) (n : Nat) (b : Bool) (d : Nat) (ml : List Value) (t : T) (Q : Option Value → T → Prop) (st : List Value) : vc xs zH_72 (n + 1) b d 72 79 ml st t Q = (st.all zc1 = true ∧ vtk 2 st [] (fun as rest => rest.length ≤ 8 ∧ twc d 70 as t (fun r t' => vc xs zH_72 n true d 72 82 ml (r.toList ++ rest) t' Q))) := by
  rw [vc_q (o := (37, 0, 70, 2, [])) (by decide +kernel)]; rfl
theorem v_72_82 (xs : Option (List Int32)) (n : Nat) (b : Bool) (d : Nat) (ml : List Value) (t : T) (Q : Option Value → T → Prop) (v : Int32) (r : List Value) : vc xs zH_72 (n + 1) b d 72 82 ml (.int v :: r) t Q = vset ml 5 (.int v) (fun l => vc xs zH_72 n true d 72 84 l r t Q) := by
  rw [vc_q (o := (3, 0, 5, 1, [])) (by decide +kernel)]; rfl
theorem v_72_84 (xs : Option (List Int32)) (n : Nat) (b : Bool) (d : Nat) (ml : List Value) (t : T) (Q : Option Value → T → Prop) (st : List Value) : vc xs zH_72 (n + 1) b d 72 84 ml st t Q = vgi ml 7 (fun v => vset ml 7 (.int (v + 1)) (fun l => vc xs zH_72 n true d 72 87 l st t Q)) := by
  rw [vc_q (o := (5, 1, 7, 0, [])) (by decide +kernel)]; rfl
theorem v_72_87 (xs : Option (List Int32)) (n : Nat) (b : Bool) (d : Nat) (ml : List Value) (t : T) (Q : Option Value → T → Prop) (st : List Value) : vc xs zH_72 (n + 1) b d 72 87 ml st t Q = vc xs zH_72 n true d 72 16 ml st t Q := by
  rw [vc_q (o := (22, 0, 16, 0, [])) (by decide +kernel)]; rfl
theorem v_72_90 (xs : Option (List Int32)) (n : Nat) (b : Bool) (d : Nat) (ml : List Value) (t : T) (Q : Option Value → T → Prop) (st : List Value) : vc xs zH_72 (n + 1) b d 72 90 ml st t Q = vgi ml 6 (fun v => vset ml 6 (.int (v + 1)) (fun l => vc xs zH_72 n true d 72 93 l st t Q)) := by
  rw [vc_q (o := (5, 1, 6, 0, [])) (by decide +kernel)]; rfl
theorem v_72_93 (xs : Option (List Int32)) (n : Nat) (b : Bool) (d : Nat) (ml : List Value) (t : T) (Q : Option Value → T → Prop) (st : List Value) : vc xs zH_72 (n + 1) b d 72 93 ml st t Q = vc xs zH_72 n true d 72 6 ml st t Q := by
  rw [vc_q (o := (22, 0, 6, 0, [])) (by decide +kernel)]; rfl
theorem v_72_96 (xs : Option (List Int32)) (n : Nat) (b : Bool) (d : Nat) (ml : List Value) (t : T) (Q : Option Value → T → Prop) (st : List Value) : vc xs zH_72 (n + 1) b d 72 96 ml st t Q = vgi ml 5 (fun v => vc xs zH_72 n true d 72 98 ml (.int v :: st) t Q) := by
  rw [vc_q (o := (1, 0, 5, 1, [])) (by decide +kernel)]; rfl
theorem v_72_98 (xs : Option (List Int32)) (n : Nat) (b : Bool) (d : Nat) (ml : List Value) (t : T) (Q : Option Value → T → Prop) (v : Int32) : vc xs zH_72 (n + 1) b d 72 98 ml [.int v] t Q = Q (some (.int v)) t := by
  rw [vc_q (o := (40, 0, 0, 0, [])) (by decide +kernel)]; rfl
def zH_73 : List Nat := []
theorem v_73_0 (xs : Option (List Int32)) (n : Nat) (b : Bool) (d : Nat) (ml : List Value) (t : T) (Q : Option Value → T → Prop) (st : List Value) : vc xs zH_73 (n + 1) b d 73 0 ml st t Q = vgi ml 1 (fun v => vc xs zH_73 n true d 73 1 ml (.int v :: st) t Q) := by
  rw [vc_q (o := (1, 0, 1, 0, [])) (by decide +kernel)]; rfl
theorem v_73_1 (xs : Option (List Int32)) (n : Nat) (b : Bool) (d : Nat) (ml : List Value) (t : T) (Q : Option Value → T → Prop) (st : List Value) : vc xs zH_73 (n + 1) b d 73 1 ml st t Q = (st.all zc1 = true ∧ vtk 1 st [] (fun as rest => rest.length ≤ 8 ∧ twc d 47 as t (fun r t' => vc xs zH_73 n true d 73 4 ml (r.toList ++ rest) t' Q))) := by
  rw [vc_q (o := (37, 0, 47, 1, [])) (by decide +kernel)]; rfl
theorem v_73_4 (xs : Option (List Int32)) (n : Nat) (b : Bool) (d : Nat) (ml : List Value) (t : T) (Q : Option Value → T → Prop) (u : Int32) (r : List Value) : vc xs zH_73 (n + 1) b d 73 4 ml (.int u :: r) t Q = (if u = 0 then vc xs zH_73 n true d 73 7 ml r t Q else vc xs zH_73 n true d 73 9 ml r t Q) := by
  rw [vc_q (o := (21, 0, 9, 1, [])) (by decide +kernel)]; rfl
theorem v_73_7 (xs : Option (List Int32)) (n : Nat) (b : Bool) (d : Nat) (ml : List Value) (t : T) (Q : Option Value → T → Prop) (st : List Value) : vc xs zH_73 (n + 1) b d 73 7 ml st t Q = vc xs zH_73 n true d 73 8 ml (.int (-1) :: st) t Q := by
  rw [vc_q (o := (0, (-1), 0, 0, [])) (by decide +kernel)]; rfl
theorem v_73_8 (xs : Option (List Int32)) (n : Nat) (b : Bool) (d : Nat) (ml : List Value) (t : T) (Q : Option Value → T → Prop) (v : Int32) : vc xs zH_73 (n + 1) b d 73 8 ml [.int v] t Q = Q (some (.int v)) t := by
  rw [vc_q (o := (40, 0, 0, 0, [])) (by decide +kernel)]; rfl
theorem v_73_9 (xs : Option (List Int32)) (n : Nat) (b : Bool) (d : Nat) (ml : List Value) (t : T) (Q : Option Value → T → Prop) (st : List Value) : vc xs zH_73 (n + 1) b d 73 9 ml st t Q = vga ml 0 (fun v => vc xs zH_73 n true d 73 10 ml (.ref v :: st) t Q) := by
  rw [vc_q (o := (2, 0, 0, 0, [])) (by decide +kernel)]; rfl
theorem v_73_10 (xs : Option (List Int32)) (n : Nat) (b : Bool) (d : Nat) (ml : List Value) (t : T) (Q : Option Value → T → Prop) (st : List Value) : vc xs zH_73 (n + 1) b d 73 10 ml st t Q = vgi ml 1 (fun v => vc xs zH_73 n true d 73 11 ml (.int v :: st) t Q) := by
  rw [vc_q (o := (1, 0, 1, 0, [])) (by decide +kernel)]; rfl
theorem v_73_11 (xs : Option (List Int32)) (n : Nat) (b : Bool) (d : Nat) (ml : List Value) (t : T) (Q : Option Value → T → Prop) (st : List Value) : vc xs zH_73 (n + 1) b d 73 11 ml st t Q = (st.all zc1 = true ∧ vtk 2 st [] (fun as rest => rest.length ≤ 8 ∧ vrc as 12 (twc d 71 as t (fun r t' => vc xs zH_73 n true d 73 14 ml (r.toList ++ rest) t' Q)))) := by
  rw [vc_q (o := (36, 0, 71, 1, [(0, 12)])) (by decide +kernel)]; rfl
theorem v_73_14 (xs : Option (List Int32)) (n : Nat) (b : Bool) (d : Nat) (ml : List Value) (t : T) (Q : Option Value → T → Prop) (st : List Value) : vc xs zH_73 (n + 1) b d 73 14 ml st t Q = vga ml 0 (fun v => vc xs zH_73 n true d 73 15 ml (.ref v :: st) t Q) := by
  rw [vc_q (o := (2, 0, 0, 0, [])) (by decide +kernel)]; rfl
theorem v_73_15 (xs : Option (List Int32)) (n : Nat) (b : Bool) (d : Nat) (ml : List Value) (t : T) (Q : Option Value → T → Prop) (st : List Value) : vc xs zH_73 (n + 1) b d 73 15 ml st t Q = vgi ml 1 (fun v => vc xs zH_73 n true d 73 16 ml (.int v :: st) t Q) := by
  rw [vc_q (o := (1, 0, 1, 0, [])) (by decide +kernel)]; rfl
theorem v_73_16 (xs : Option (List Int32)) (n : Nat) (b : Bool) (d : Nat) (ml : List Value) (t : T) (Q : Option Value → T → Prop) (st : List Value) : vc xs zH_73 (n + 1) b d 73 16 ml st t Q = (st.all zc1 = true ∧ vtk 2 st [] (fun as rest => rest.length ≤ 8 ∧ vrc as 12 (twc d 40 as t (fun r t' => vc xs zH_73 n true d 73 19 ml (r.toList ++ rest) t' Q)))) := by
  rw [vc_q (o := (36, 0, 40, 1, [(0, 12)])) (by decide +kernel)]; rfl
theorem v_73_19 (xs : Option (List Int32)) (n : Nat) (b : Bool) (d : Nat) (ml : List Value) (t : T) (Q : Option Value → T → Prop) (v : Int32) : vc xs zH_73 (n + 1) b d 73 19 ml [.int v] t Q = Q (some (.int v)) t := by
  rw [vc_q (o := (40, 0, 0, 0, [])) (by decide +kernel)]; rfl
def zH_74 : List Nat := []
theorem v_74_0 (xs : Option (List Int32)) (n : Nat) (b : Bool) (d : Nat) (ml : List Value) (t : T) (Q : Option Value → T → Prop) (st : List Value) : vc xs zH_74 (n + 1) b d 74 0 ml st t Q = vgi ml 0 (fun v => vc xs zH_74 n true d 74 1 ml (.int v :: st) t Q) := by
  rw [vc_q (o := (1, 0, 0, 0, [])) (by decide +kernel)]; rfl
theorem v_74_1 (xs : Option (List Int32)) (n : Nat) (b : Bool) (d : Nat) (ml : List Value) (t : T) (Q : Option Value → T → Prop) (st : List Value) : vc xs zH_74 (n + 1) b d 74 1 ml st t Q = vgi ml 1 (fun v => vc xs zH_74 n true d 74 2 ml (.int v :: st) t Q) := by
  rw [vc_q (o := (1, 0, 1, 0, [])) (by decide +kernel)]; rfl
theorem v_74_2 (xs : Option (List Int32)) (n : Nat) (b : Bool) (d : Nat) (ml : List Value) (t : T) (Q : Option Value → T → Prop) (u v : Int32) (r : List Value) : vc xs zH_74 (n + 1) b d 74 2 ml (.int v :: .int u :: r) t Q = (if u = v then vc xs zH_74 n true d 74 10 ml r t Q else vc xs zH_74 n true d 74 5 ml r t Q) := by
  rw [vc_q (o := (20, 0, 10, 0, [])) (by decide +kernel)]; rfl
theorem v_74_5 (xs : Option (List Int32)) (n : Nat) (b : Bool) (d : Nat) (ml : List Value) (t : T) (Q : Option Value → T → Prop) (st : List Value) : vc xs zH_74 (n + 1) b d 74 5 ml st t Q = vgi ml 1 (fun v => vc xs zH_74 n true d 74 6 ml (.int v :: st) t Q) := by
  rw [vc_q (o := (1, 0, 1, 0, [])) (by decide +kernel)]; rfl
theorem v_74_6 (xs : Option (List Int32)) (n : Nat) (b : Bool) (d : Nat) (ml : List Value) (t : T) (Q : Option Value → T → Prop) (st : List Value) : vc xs zH_74 (n + 1) b d 74 6 ml st t Q = vc xs zH_74 n true d 74 7 ml (.int 2 :: st) t Q := by
  rw [vc_q (o := (0, 2, 0, 0, [])) (by decide +kernel)]; rfl
theorem v_74_7 (xs : Option (List Int32)) (n : Nat) (b : Bool) (d : Nat) (ml : List Value) (t : T) (Q : Option Value → T → Prop) (u v : Int32) (r : List Value) : vc xs zH_74 (n + 1) b d 74 7 ml (.int v :: .int u :: r) t Q = (if u = v then vc xs zH_74 n true d 74 10 ml r t Q else vc xs zH_74 n true d 74 14 ml r t Q) := by
  rw [vc_q (o := (20, 0, 14, 1, [])) (by decide +kernel)]; rfl
theorem v_74_10 (xs : Option (List Int32)) (n : Nat) (b : Bool) (d : Nat) (ml : List Value) (t : T) (Q : Option Value → T → Prop) (st : List Value) : vc xs zH_74 (n + 1) b d 74 10 ml st t Q = vc xs zH_74 n true d 74 11 ml (.int 1 :: st) t Q := by
  rw [vc_q (o := (0, 1, 0, 0, [])) (by decide +kernel)]; rfl
theorem v_74_11 (xs : Option (List Int32)) (n : Nat) (b : Bool) (d : Nat) (ml : List Value) (t : T) (Q : Option Value → T → Prop) (st : List Value) : vc xs zH_74 (n + 1) b d 74 11 ml st t Q = vc xs zH_74 n true d 74 15 ml st t Q := by
  rw [vc_q (o := (22, 0, 15, 0, [])) (by decide +kernel)]; rfl
theorem v_74_14 (xs : Option (List Int32)) (n : Nat) (b : Bool) (d : Nat) (ml : List Value) (t : T) (Q : Option Value → T → Prop) (st : List Value) : vc xs zH_74 (n + 1) b d 74 14 ml st t Q = vc xs zH_74 n true d 74 15 ml (.int 0 :: st) t Q := by
  rw [vc_q (o := (0, 0, 0, 0, [])) (by decide +kernel)]; rfl
theorem v_74_15 (xs : Option (List Int32)) (n : Nat) (b : Bool) (d : Nat) (ml : List Value) (t : T) (Q : Option Value → T → Prop) (v : Int32) : vc xs zH_74 (n + 1) b d 74 15 ml [.int v] t Q = ((v = 0 ∨ v = 1) ∧ Q (some (.int v)) t) := by
  rw [vc_q (o := (41, 0, 0, 0, [])) (by decide +kernel)]; rfl
def zH_75 : List Nat := [37, 90, 140]
theorem v_75_0 (xs : Option (List Int32)) (n : Nat) (b : Bool) (d : Nat) (ml : List Value) (t : T) (Q : Option Value → T → Prop) (st : List Value) : vc xs zH_75 (n + 1) b d 75 0 ml st t Q = vga ml 0 (fun v => vc xs zH_75 n true d 75 1 ml (.ref v :: st) t Q) := by
  rw [vc_q (o := (2, 0, 0, 0, [])) (by decide +kernel)]; rfl
theorem v_75_1 (xs : Option (List Int32)) (n : Nat) (b : Bool) (d : Nat) (ml : List Value) (t : T) (Q : Option Value → T → Prop) (u : Nat) (r : List Value) : vc xs zH_75 (n + 1) b d 75 1 ml (.ref u :: r) t Q = (vtag u = 12 ∧ vc xs zH_75 n true d 75 4 ml (.ref (tref t u 37) :: r) t Q) := by
  rw [vc_q (o := (25, 0, 12, 37, [])) (by decide +kernel)]; rfl
theorem v_75_4 (xs : Option (List Int32)) (n : Nat) (b : Bool) (d : Nat) (ml : List Value) (t : T) (Q : Option Value → T → Prop) (st : List Value) : vc xs zH_75 (n + 1) b d 75 4 ml st t Q = vgi ml 3 (fun v => vc xs zH_75 n true d 75 5 ml (.int v :: st) t Q) := by
  rw [vc_q (o := (1, 0, 3, 0, [])) (by decide +kernel)]; rfl
theorem v_75_5 (xs : Option (List Int32)) (n : Nat) (b : Bool) (d : Nat) (ml : List Value) (t : T) (Q : Option Value → T → Prop) (v : Int32) (u : Nat) (r : List Value) : vc xs zH_75 (n + 1) b d 75 5 ml (.int v :: .ref u :: r) t Q = (vtag u = 100 ∧ vinb v (vlen u) ∧ vc xs zH_75 n true d 75 6 ml (.int (t.1 u v.toNatClampNeg) :: r) t Q) := by
  rw [vc_q (o := (29, 0, 0, 0, [])) (by decide +kernel)]; rfl
theorem v_75_6 (xs : Option (List Int32)) (n : Nat) (b : Bool) (d : Nat) (ml : List Value) (t : T) (Q : Option Value → T → Prop) (v : Int32) (r : List Value) : vc xs zH_75 (n + 1) b d 75 6 ml (.int v :: r) t Q = vset ml 4 (.int v) (fun l => vc xs zH_75 n true d 75 8 l r t Q) := by
  rw [vc_q (o := (3, 0, 4, 1, [])) (by decide +kernel)]; rfl
theorem v_75_8 (xs : Option (List Int32)) (n : Nat) (b : Bool) (d : Nat) (ml : List Value) (t : T) (Q : Option Value → T → Prop) (st : List Value) : vc xs zH_75 (n + 1) b d 75 8 ml st t Q = vga ml 0 (fun v => vc xs zH_75 n true d 75 9 ml (.ref v :: st) t Q) := by
  rw [vc_q (o := (2, 0, 0, 0, [])) (by decide +kernel)]; rfl
theorem v_75_9 (xs : Option (List Int32)) (n : Nat) (b : Bool) (d : Nat) (ml : List Value) (t : T) (Q : Option Value → T → Prop) (st : List Value) : vc xs zH_75 (n + 1) b d 75 9 ml st t Q = vgi ml 1 (fun v => vc xs zH_75 n true d 75 10 ml (.int v :: st) t Q) := by
  rw [vc_q (o := (1, 0, 1, 0, [])) (by decide +kernel)]; rfl
theorem v_75_10 (xs : Option (List Int32)) (n : Nat) (b : Bool) (d : Nat) (ml : List Value) (t : T) (Q : Option Value → T → Prop) (st : List Value) : vc xs zH_75 (n + 1) b d 75 10 ml st t Q = vgi ml 3 (fun v => vc xs zH_75 n true d 75 11 ml (.int v :: st) t Q) := by
  rw [vc_q (o := (1, 0, 3, 0, [])) (by decide +kernel)]; rfl
theorem v_75_11 (xs : Option (List Int32)) (n : Nat) (b : Bool) (d : Nat) (ml : List Value) (t : T) (Q : Option Value → T → Prop) (st : List Value) : vc xs zH_75 (n + 1) b d 75 11 ml st t Q = (st.all zc1 = true ∧ vtk 3 st [] (fun as rest => rest.length ≤ 8 ∧ vrc as 12 (twc d 42 as t (fun r t' => vc xs zH_75 n true d 75 14 ml (r.toList ++ rest) t' Q)))) := by
  rw [vc_q (o := (36, 0, 42, 2, [(0, 12)])) (by decide +kernel)]; rfl
theorem v_75_14 (xs : Option (List Int32)) (n : Nat) (b : Bool) (d : Nat) (ml : List Value) (t : T) (Q : Option Value → T → Prop) (u : Int32) (r : List Value) : vc xs zH_75 (n + 1) b d 75 14 ml (.int u :: r) t Q = (if u = 0 then vc xs zH_75 n true d 75 27 ml r t Q else vc xs zH_75 n true d 75 17 ml r t Q) := by
  rw [vc_q (o := (21, 0, 27, 0, [])) (by decide +kernel)]; rfl
theorem v_75_17 (xs : Option (List Int32)) (n : Nat) (b : Bool) (d : Nat) (ml : List Value) (t : T) (Q : Option Value → T → Prop) (st : List Value) : vc xs zH_75 (n + 1) b d 75 17 ml st t Q = vga ml 0 (fun v => vc xs zH_75 n true d 75 18 ml (.ref v :: st) t Q) := by
  rw [vc_q (o := (2, 0, 0, 0, [])) (by decide +kernel)]; rfl
theorem v_75_18 (xs : Option (List Int32)) (n : Nat) (b : Bool) (d : Nat) (ml : List Value) (t : T) (Q : Option Value → T → Prop) (st : List Value) : vc xs zH_75 (n + 1) b d 75 18 ml st t Q = vgi ml 2 (fun v => vc xs zH_75 n true d 75 19 ml (.int v :: st) t Q) := by
  rw [vc_q (o := (1, 0, 2, 0, [])) (by decide +kernel)]; rfl
theorem v_75_19 (xs : Option (List Int32)) (n : Nat) (b : Bool) (d : Nat) (ml : List Value) (t : T) (Q : Option Value → T → Prop) (st : List Value) : vc xs zH_75 (n + 1) b d 75 19 ml st t Q = vgi ml 4 (fun v => vc xs zH_75 n true d 75 21 ml (.int v :: st) t Q) := by
  rw [vc_q (o := (1, 0, 4, 1, [])) (by decide +kernel)]; rfl
theorem v_75_21 (xs : Option (List Int32)) (n : Nat) (b : Bool) (d : Nat) (ml : List Value) (t : T) (Q : Option Value → T → Prop) (st : List Value) : vc xs zH_75 (n + 1) b d 75 21 ml st t Q = (st.all zc1 = true ∧ vtk 3 st [] (fun as rest => rest.length ≤ 8 ∧ vrc as 12 (twc d 42 as t (fun r t' => vc xs zH_75 n true d 75 24 ml (r.toList ++ rest) t' Q)))) := by
  rw [vc_q (o := (36, 0, 42, 2, [(0, 12)])) (by decide +kernel)]; rfl
theorem v_75_24 (xs : Option (List Int32)) (n : Nat) (b : Bool) (d : Nat) (ml : List Value) (t : T) (Q : Option Value → T → Prop) (u : Int32) (r : List Value) : vc xs zH_75 (n + 1) b d 75 24 ml (.int u :: r) t Q = (if u = 0 then vc xs zH_75 n true d 75 31 ml r t Q else vc xs zH_75 n true d 75 27 ml r t Q) := by
  rw [vc_q (o := (21, 0, 31, 0, [])) (by decide +kernel)]; rfl
theorem v_75_27 (xs : Option (List Int32)) (n : Nat) (b : Bool) (d : Nat) (ml : List Value) (t : T) (Q : Option Value → T → Prop) (st : List Value) : vc xs zH_75 (n + 1) b d 75 27 ml st t Q = vc xs zH_75 n true d 75 28 ml (.int 1 :: st) t Q := by
  rw [vc_q (o := (0, 1, 0, 0, [])) (by decide +kernel)]; rfl
theorem v_75_28 (xs : Option (List Int32)) (n : Nat) (b : Bool) (d : Nat) (ml : List Value) (t : T) (Q : Option Value → T → Prop) (st : List Value) : vc xs zH_75 (n + 1) b d 75 28 ml st t Q = vc xs zH_75 n true d 75 32 ml st t Q := by
  rw [vc_q (o := (22, 0, 32, 0, [])) (by decide +kernel)]; rfl
theorem v_75_31 (xs : Option (List Int32)) (n : Nat) (b : Bool) (d : Nat) (ml : List Value) (t : T) (Q : Option Value → T → Prop) (st : List Value) : vc xs zH_75 (n + 1) b d 75 31 ml st t Q = vc xs zH_75 n true d 75 32 ml (.int 0 :: st) t Q := by
  rw [vc_q (o := (0, 0, 0, 0, [])) (by decide +kernel)]; rfl
theorem v_75_32 (xs : Option (List Int32)) (n : Nat) (b : Bool) (d : Nat) (ml : List Value) (t : T) (Q : Option Value → T → Prop) (v : Int32) (r : List Value) : vc xs zH_75 (n + 1) b d 75 32 ml (.int v :: r) t Q = vset ml 5 (.int v) (fun l => vc xs zH_75 n true d 75 34 l r t Q) := by
  rw [vc_q (o := (3, 0, 5, 1, [])) (by decide +kernel)]; rfl
theorem v_75_34 (xs : Option (List Int32)) (n : Nat) (b : Bool) (d : Nat) (ml : List Value) (t : T) (Q : Option Value → T → Prop) (st : List Value) : vc xs zH_75 (n + 1) b d 75 34 ml st t Q = vc xs zH_75 n true d 75 35 ml (.int 2 :: st) t Q := by
  rw [vc_q (o := (0, 2, 0, 0, [])) (by decide +kernel)]; rfl
theorem v_75_35 (xs : Option (List Int32)) (n : Nat) (b : Bool) (d : Nat) (ml : List Value) (t : T) (Q : Option Value → T → Prop) (v : Int32) (r : List Value) : vc xs zH_75 (n + 1) b d 75 35 ml (.int v :: r) t Q = vset ml 6 (.int v) (fun l => vc xs zH_75 n true d 75 37 l r t Q) := by
  rw [vc_q (o := (3, 0, 6, 1, [])) (by decide +kernel)]; rfl
theorem v_75_37 (xs : Option (List Int32)) (n : Nat) (d : Nat) (ml : List Value) (t : T) (Q : Option Value → T → Prop) (st : List Value) : vc xs zH_75 (n + 1) false d 75 37 ml st t Q = vgi ml 6 (fun v => vc xs zH_75 n true d 75 39 ml (.int v :: st) t Q) := by
  rw [vc_q (o := (1, 0, 6, 1, [])) (by decide +kernel)]; rfl
theorem h_75_37 (xs : Option (List Int32)) (n d : Nat) (ml st : List Value) (t : T) (Q : Option Value → T → Prop) : vc xs zH_75 (n + 1) true d 75 37 ml st t Q = twp xs d 75 37 ml st t Q := id rfl
theorem v_75_39 (xs : Option (List Int32)) (n : Nat) (b : Bool) (d : Nat) (ml : List Value) (t : T) (Q : Option Value → T → Prop) (st : List Value) : vc xs zH_75 (n + 1) b d 75 39 ml st t Q = vc xs zH_75 n true d 75 41 ml (.int 6 :: st) t Q := by
  rw [vc_q (o := (0, 6, 1, 0, [])) (by decide +kernel)]; rfl
theorem v_75_41 (xs : Option (List Int32)) (n : Nat) (b : Bool) (d : Nat) (ml : List Value) (t : T) (Q : Option Value → T → Prop) (u v : Int32) (r : List Value) : vc xs zH_75 (n + 1) b d 75 41 ml (.int v :: .int u :: r) t Q = (if u < v then vc xs zH_75 n true d 75 44 ml r t Q else vc xs zH_75 n true d 75 87 ml r t Q) := by
  rw [vc_q (o := (20, 0, 87, 3, [])) (by decide +kernel)]; rfl
theorem v_75_44 (xs : Option (List Int32)) (n : Nat) (b : Bool) (d : Nat) (ml : List Value) (t : T) (Q : Option Value → T → Prop) (st : List Value) : vc xs zH_75 (n + 1) b d 75 44 ml st t Q = vgi ml 5 (fun v => vc xs zH_75 n true d 75 46 ml (.int v :: st) t Q) := by
  rw [vc_q (o := (1, 0, 5, 1, [])) (by decide +kernel)]; rfl
theorem v_75_46 (xs : Option (List Int32)) (n : Nat) (b : Bool) (d : Nat) (ml : List Value) (t : T) (Q : Option Value → T → Prop) (u : Int32) (r : List Value) : vc xs zH_75 (n + 1) b d 75 46 ml (.int u :: r) t Q = (if u = 0 then vc xs zH_75 n true d 75 78 ml r t Q else vc xs zH_75 n true d 75 49 ml r t Q) := by
  rw [vc_q (o := (21, 0, 78, 0, [])) (by decide +kernel)]; rfl
theorem v_75_49 (xs : Option (List Int32)) (n : Nat) (b : Bool) (d : Nat) (ml : List Value) (t : T) (Q : Option Value → T → Prop) (st : List Value) : vc xs zH_75 (n + 1) b d 75 49 ml st t Q = vga ml 0 (fun v => vc xs zH_75 n true d 75 50 ml (.ref v :: st) t Q) := by
  rw [vc_q (o := (2, 0, 0, 0, [])) (by decide +kernel)]; rfl
theorem v_75_50 (xs : Option (List Int32)) (n : Nat) (b : Bool) (d : Nat) (ml : List Value) (t : T) (Q : Option Value → T → Prop) (st : List Value) : vc xs zH_75 (n + 1) b d 75 50 ml st t Q = vgi ml 1 (fun v => vc xs zH_75 n true d 75 51 ml (.int v :: st) t Q) := by
  rw [vc_q (o := (1, 0, 1, 0, [])) (by decide +kernel)]; rfl
theorem v_75_51 (xs : Option (List Int32)) (n : Nat) (b : Bool) (d : Nat) (ml : List Value) (t : T) (Q : Option Value → T → Prop) (st : List Value) : vc xs zH_75 (n + 1) b d 75 51 ml st t Q = vgi ml 6 (fun v => vc xs zH_75 n true d 75 53 ml (.int v :: st) t Q) := by
  rw [vc_q (o := (1, 0, 6, 1, [])) (by decide +kernel)]; rfl
theorem v_75_53 (xs : Option (List Int32)) (n : Nat) (b : Bool) (d : Nat) (ml : List Value) (t : T) (Q : Option Value → T → Prop) (st : List Value) : vc xs zH_75 (n + 1) b d 75 53 ml st t Q = vgi ml 3 (fun v => vc xs zH_75 n true d 75 54 ml (.int v :: st) t Q) := by
  rw [vc_q (o := (1, 0, 3, 0, [])) (by decide +kernel)]; rfl
theorem v_75_54 (xs : Option (List Int32)) (n : Nat) (b : Bool) (d : Nat) (ml : List Value) (t : T) (Q : Option Value → T → Prop) (st : List Value) : vc xs zH_75 (n + 1) b d 75 54 ml st t Q = vc xs zH_75 n true d 75 55 ml (.int 0 :: st) t Q := by
  rw [vc_q (o := (0, 0, 0, 0, [])) (by decide +kernel)]; rfl
theorem v_75_55 (xs : Option (List Int32)) (n : Nat) (b : Bool) (d : Nat) (ml : List Value) (t : T) (Q : Option Value → T → Prop) (st : List Value) : vc xs zH_75 (n + 1) b d 75 55 ml st t Q = (st.all zc1 = true ∧ vtk 5 st [] (fun as rest => rest.length ≤ 8 ∧ vrc as 12 (twc d 43 as t (fun r t' => vc xs zH_75 n true d 75 58 ml (r.toList ++ rest) t' Q)))) := by
  rw [vc_q (o := (36, 0, 43, 4, [(0, 12)])) (by decide +kernel)]; rfl
theorem v_75_58 (xs : Option (List Int32)) (n : Nat) (b : Bool) (d : Nat) (ml : List Value) (t : T) (Q : Option Value → T → Prop) (st : List Value) : vc xs zH_75 (n + 1) b d 75 58 ml st t Q = vga ml 0 (fun v => vc xs zH_75 n true d 75 59 ml (.ref v :: st) t Q) := by
  rw [vc_q (o := (2, 0, 0, 0, [])) (by decide +kernel)]; rfl
theorem v_75_59 (xs : Option (List Int32)) (n : Nat) (b : Bool) (d : Nat) (ml : List Value) (t : T) (Q : Option Value → T → Prop) (st : List Value) : vc xs zH_75 (n + 1) b d 75 59 ml st t Q = vgi ml 2 (fun v => vc xs zH_75 n true d 75 60 ml (.int v :: st) t Q) := by
  rw [vc_q (o := (1, 0, 2, 0, [])) (by decide +kernel)]; rfl
theorem v_75_60 (xs : Option (List Int32)) (n : Nat) (b : Bool) (d : Nat) (ml : List Value) (t : T) (Q : Option Value → T → Prop) (st : List Value) : vc xs zH_75 (n + 1) b d 75 60 ml st t Q = vgi ml 6 (fun v => vc xs zH_75 n true d 75 62 ml (.int v :: st) t Q) := by
  rw [vc_q (o := (1, 0, 6, 1, [])) (by decide +kernel)]; rfl
theorem v_75_62 (xs : Option (List Int32)) (n : Nat) (b : Bool) (d : Nat) (ml : List Value) (t : T) (Q : Option Value → T → Prop) (st : List Value) : vc xs zH_75 (n + 1) b d 75 62 ml st t Q = vgi ml 4 (fun v => vc xs zH_75 n true d 75 64 ml (.int v :: st) t Q) := by
  rw [vc_q (o := (1, 0, 4, 1, [])) (by decide +kernel)]; rfl
theorem v_75_64 (xs : Option (List Int32)) (n : Nat) (b : Bool) (d : Nat) (ml : List Value) (t : T) (Q : Option Value → T → Prop) (st : List Value) : vc xs zH_75 (n + 1) b d 75 64 ml st t Q = vc xs zH_75 n true d 75 65 ml (.int 0 :: st) t Q := by
  rw [vc_q (o := (0, 0, 0, 0, [])) (by decide +kernel)]; rfl
theorem v_75_65 (xs : Option (List Int32)) (n : Nat) (b : Bool) (d : Nat) (ml : List Value) (t : T) (Q : Option Value → T → Prop) (st : List Value) : vc xs zH_75 (n + 1) b d 75 65 ml st t Q = (st.all zc1 = true ∧ vtk 5 st [] (fun as rest => rest.length ≤ 8 ∧ vrc as 12 (twc d 43 as t (fun r t' => vc xs zH_75 n true d 75 68 ml (r.toList ++ rest) t' Q)))) := by
  rw [vc_q (o := (36, 0, 43, 4, [(0, 12)])) (by decide +kernel)]; rfl
theorem v_75_68 (xs : Option (List Int32)) (n : Nat) (b : Bool) (d : Nat) (ml : List Value) (t : T) (Q : Option Value → T → Prop) (st : List Value) : vc xs zH_75 (n + 1) b d 75 68 ml st t Q = (st.all zc1 = true ∧ vtk 2 st [] (fun as rest => rest.length ≤ 8 ∧ twc d 74 as t (fun r t' => vc xs zH_75 n true d 75 71 ml (r.toList ++ rest) t' Q))) := by
  rw [vc_q (o := (37, 0, 74, 2, [])) (by decide +kernel)]; rfl
theorem v_75_71 (xs : Option (List Int32)) (n : Nat) (b : Bool) (d : Nat) (ml : List Value) (t : T) (Q : Option Value → T → Prop) (u : Int32) (r : List Value) : vc xs zH_75 (n + 1) b d 75 71 ml (.int u :: r) t Q = (if u = 0 then vc xs zH_75 n true d 75 78 ml r t Q else vc xs zH_75 n true d 75 74 ml r t Q) := by
  rw [vc_q (o := (21, 0, 78, 0, [])) (by decide +kernel)]; rfl
theorem v_75_74 (xs : Option (List Int32)) (n : Nat) (b : Bool) (d : Nat) (ml : List Value) (t : T) (Q : Option Value → T → Prop) (st : List Value) : vc xs zH_75 (n + 1) b d 75 74 ml st t Q = vc xs zH_75 n true d 75 75 ml (.int 1 :: st) t Q := by
  rw [vc_q (o := (0, 1, 0, 0, [])) (by decide +kernel)]; rfl
theorem v_75_75 (xs : Option (List Int32)) (n : Nat) (b : Bool) (d : Nat) (ml : List Value) (t : T) (Q : Option Value → T → Prop) (st : List Value) : vc xs zH_75 (n + 1) b d 75 75 ml st t Q = vc xs zH_75 n true d 75 79 ml st t Q := by
  rw [vc_q (o := (22, 0, 79, 0, [])) (by decide +kernel)]; rfl
theorem v_75_78 (xs : Option (List Int32)) (n : Nat) (b : Bool) (d : Nat) (ml : List Value) (t : T) (Q : Option Value → T → Prop) (st : List Value) : vc xs zH_75 (n + 1) b d 75 78 ml st t Q = vc xs zH_75 n true d 75 79 ml (.int 0 :: st) t Q := by
  rw [vc_q (o := (0, 0, 0, 0, [])) (by decide +kernel)]; rfl
theorem v_75_79 (xs : Option (List Int32)) (n : Nat) (b : Bool) (d : Nat) (ml : List Value) (t : T) (Q : Option Value → T → Prop) (v : Int32) (r : List Value) : vc xs zH_75 (n + 1) b d 75 79 ml (.int v :: r) t Q = vset ml 5 (.int v) (fun l => vc xs zH_75 n true d 75 81 l r t Q) := by
  rw [vc_q (o := (3, 0, 5, 1, [])) (by decide +kernel)]; rfl
theorem v_75_81 (xs : Option (List Int32)) (n : Nat) (b : Bool) (d : Nat) (ml : List Value) (t : T) (Q : Option Value → T → Prop) (st : List Value) : vc xs zH_75 (n + 1) b d 75 81 ml st t Q = vgi ml 6 (fun v => vset ml 6 (.int (v + 1)) (fun l => vc xs zH_75 n true d 75 84 l st t Q)) := by
  rw [vc_q (o := (5, 1, 6, 0, [])) (by decide +kernel)]; rfl
theorem v_75_84 (xs : Option (List Int32)) (n : Nat) (b : Bool) (d : Nat) (ml : List Value) (t : T) (Q : Option Value → T → Prop) (st : List Value) : vc xs zH_75 (n + 1) b d 75 84 ml st t Q = vc xs zH_75 n true d 75 37 ml st t Q := by
  rw [vc_q (o := (22, 0, 37, 0, [])) (by decide +kernel)]; rfl
theorem v_75_87 (xs : Option (List Int32)) (n : Nat) (b : Bool) (d : Nat) (ml : List Value) (t : T) (Q : Option Value → T → Prop) (st : List Value) : vc xs zH_75 (n + 1) b d 75 87 ml st t Q = vc xs zH_75 n true d 75 88 ml (.int 0 :: st) t Q := by
  rw [vc_q (o := (0, 0, 0, 0, [])) (by decide +kernel)]; rfl
theorem v_75_88 (xs : Option (List Int32)) (n : Nat) (b : Bool) (d : Nat) (ml : List Value) (t : T) (Q : Option Value → T → Prop) (v : Int32) (r : List Value) : vc xs zH_75 (n + 1) b d 75 88 ml (.int v :: r) t Q = vset ml 6 (.int v) (fun l => vc xs zH_75 n true d 75 90 l r t Q) := by
  rw [vc_q (o := (3, 0, 6, 1, [])) (by decide +kernel)]; rfl
theorem v_75_90 (xs : Option (List Int32)) (n : Nat) (d : Nat) (ml : List Value) (t : T) (Q : Option Value → T → Prop) (st : List Value) : vc xs zH_75 (n + 1) false d 75 90 ml st t Q = vgi ml 6 (fun v => vc xs zH_75 n true d 75 92 ml (.int v :: st) t Q) := by
  rw [vc_q (o := (1, 0, 6, 1, [])) (by decide +kernel)]; rfl
theorem h_75_90 (xs : Option (List Int32)) (n d : Nat) (ml st : List Value) (t : T) (Q : Option Value → T → Prop) : vc xs zH_75 (n + 1) true d 75 90 ml st t Q = twp xs d 75 90 ml st t Q := id rfl
theorem v_75_92 (xs : Option (List Int32)) (n : Nat) (b : Bool) (d : Nat) (ml : List Value) (t : T) (Q : Option Value → T → Prop) (st : List Value) : vc xs zH_75 (n + 1) b d 75 92 ml st t Q = vgi ml 3 (fun v => vc xs zH_75 n true d 75 93 ml (.int v :: st) t Q) := by
  rw [vc_q (o := (1, 0, 3, 0, [])) (by decide +kernel)]; rfl
theorem v_75_93 (xs : Option (List Int32)) (n : Nat) (b : Bool) (d : Nat) (ml : List Value) (t : T) (Q : Option Value → T → Prop) (u v : Int32) (r : List Value) : vc xs zH_75 (n + 1) b d 75 93 ml (.int v :: .int u :: r) t Q = (if v < u then vc xs zH_75 n true d 75 235 ml r t Q else vc xs zH_75 n true d 75 96 ml r t Q) := by
  rw [vc_q (o := (20, 0, 235, 4, [])) (by decide +kernel)]; rfl
theorem v_75_96 (xs : Option (List Int32)) (n : Nat) (b : Bool) (d : Nat) (ml : List Value) (t : T) (Q : Option Value → T → Prop) (st : List Value) : vc xs zH_75 (n + 1) b d 75 96 ml st t Q = vgi ml 5 (fun v => vc xs zH_75 n true d 75 98 ml (.int v :: st) t Q) := by
  rw [vc_q (o := (1, 0, 5, 1, [])) (by decide +kernel)]; rfl
theorem v_75_98 (xs : Option (List Int32)) (n : Nat) (b : Bool) (d : Nat) (ml : List Value) (t : T) (Q : Option Value → T → Prop) (u : Int32) (r : List Value) : vc xs zH_75 (n + 1) b d 75 98 ml (.int u :: r) t Q = (if u = 0 then vc xs zH_75 n true d 75 133 ml r t Q else vc xs zH_75 n true d 75 101 ml r t Q) := by
  rw [vc_q (o := (21, 0, 133, 0, [])) (by decide +kernel)]; rfl
theorem v_75_101 (xs : Option (List Int32)) (n : Nat) (b : Bool) (d : Nat) (ml : List Value) (t : T) (Q : Option Value → T → Prop) (st : List Value) : vc xs zH_75 (n + 1) b d 75 101 ml st t Q = vgi ml 6 (fun v => vc xs zH_75 n true d 75 103 ml (.int v :: st) t Q) := by
  rw [vc_q (o := (1, 0, 6, 1, [])) (by decide +kernel)]; rfl
theorem v_75_103 (xs : Option (List Int32)) (n : Nat) (b : Bool) (d : Nat) (ml : List Value) (t : T) (Q : Option Value → T → Prop) (st : List Value) : vc xs zH_75 (n + 1) b d 75 103 ml st t Q = vgi ml 3 (fun v => vc xs zH_75 n true d 75 104 ml (.int v :: st) t Q) := by
  rw [vc_q (o := (1, 0, 3, 0, [])) (by decide +kernel)]; rfl
theorem v_75_104 (xs : Option (List Int32)) (n : Nat) (b : Bool) (d : Nat) (ml : List Value) (t : T) (Q : Option Value → T → Prop) (u v : Int32) (r : List Value) : vc xs zH_75 (n + 1) b d 75 104 ml (.int v :: .int u :: r) t Q = (if u = v then vc xs zH_75 n true d 75 129 ml r t Q else vc xs zH_75 n true d 75 107 ml r t Q) := by
  rw [vc_q (o := (20, 0, 129, 0, [])) (by decide +kernel)]; rfl
theorem v_75_107 (xs : Option (List Int32)) (n : Nat) (b : Bool) (d : Nat) (ml : List Value) (t : T) (Q : Option Value → T → Prop) (st : List Value) : vc xs zH_75 (n + 1) b d 75 107 ml st t Q = vga ml 0 (fun v => vc xs zH_75 n true d 75 108 ml (.ref v :: st) t Q) := by
  rw [vc_q (o := (2, 0, 0, 0, [])) (by decide +kernel)]; rfl
theorem v_75_108 (xs : Option (List Int32)) (n : Nat) (b : Bool) (d : Nat) (ml : List Value) (t : T) (Q : Option Value → T → Prop) (u : Nat) (r : List Value) : vc xs zH_75 (n + 1) b d 75 108 ml (.ref u :: r) t Q = (vtag u = 12 ∧ vc xs zH_75 n true d 75 111 ml (.ref (tref t u 37) :: r) t Q) := by
  rw [vc_q (o := (25, 0, 12, 37, [])) (by decide +kernel)]; rfl
theorem v_75_111 (xs : Option (List Int32)) (n : Nat) (b : Bool) (d : Nat) (ml : List Value) (t : T) (Q : Option Value → T → Prop) (st : List Value) : vc xs zH_75 (n + 1) b d 75 111 ml st t Q = vgi ml 6 (fun v => vc xs zH_75 n true d 75 113 ml (.int v :: st) t Q) := by
  rw [vc_q (o := (1, 0, 6, 1, [])) (by decide +kernel)]; rfl
theorem v_75_113 (xs : Option (List Int32)) (n : Nat) (b : Bool) (d : Nat) (ml : List Value) (t : T) (Q : Option Value → T → Prop) (v : Int32) (u : Nat) (r : List Value) : vc xs zH_75 (n + 1) b d 75 113 ml (.int v :: .ref u :: r) t Q = (vtag u = 100 ∧ vinb v (vlen u) ∧ vc xs zH_75 n true d 75 114 ml (.int (t.1 u v.toNatClampNeg) :: r) t Q) := by
  rw [vc_q (o := (29, 0, 0, 0, [])) (by decide +kernel)]; rfl
theorem v_75_114 (xs : Option (List Int32)) (n : Nat) (b : Bool) (d : Nat) (ml : List Value) (t : T) (Q : Option Value → T → Prop) (st : List Value) : vc xs zH_75 (n + 1) b d 75 114 ml st t Q = vgi ml 4 (fun v => vc xs zH_75 n true d 75 116 ml (.int v :: st) t Q) := by
  rw [vc_q (o := (1, 0, 4, 1, [])) (by decide +kernel)]; rfl
theorem v_75_116 (xs : Option (List Int32)) (n : Nat) (b : Bool) (d : Nat) (ml : List Value) (t : T) (Q : Option Value → T → Prop) (u v : Int32) (r : List Value) : vc xs zH_75 (n + 1) b d 75 116 ml (.int v :: .int u :: r) t Q = (if u = v then vc xs zH_75 n true d 75 119 ml r t Q else vc xs zH_75 n true d 75 129 ml r t Q) := by
  rw [vc_q (o := (20, 0, 129, 1, [])) (by decide +kernel)]; rfl
theorem v_75_119 (xs : Option (List Int32)) (n : Nat) (b : Bool) (d : Nat) (ml : List Value) (t : T) (Q : Option Value → T → Prop) (st : List Value) : vc xs zH_75 (n + 1) b d 75 119 ml st t Q = vga ml 0 (fun v => vc xs zH_75 n true d 75 120 ml (.ref v :: st) t Q) := by
  rw [vc_q (o := (2, 0, 0, 0, [])) (by decide +kernel)]; rfl
theorem v_75_120 (xs : Option (List Int32)) (n : Nat) (b : Bool) (d : Nat) (ml : List Value) (t : T) (Q : Option Value → T → Prop) (st : List Value) : vc xs zH_75 (n + 1) b d 75 120 ml st t Q = vgi ml 2 (fun v => vc xs zH_75 n true d 75 121 ml (.int v :: st) t Q) := by
  rw [vc_q (o := (1, 0, 2, 0, [])) (by decide +kernel)]; rfl
theorem v_75_121 (xs : Option (List Int32)) (n : Nat) (b : Bool) (d : Nat) (ml : List Value) (t : T) (Q : Option Value → T → Prop) (st : List Value) : vc xs zH_75 (n + 1) b d 75 121 ml st t Q = vgi ml 4 (fun v => vc xs zH_75 n true d 75 123 ml (.int v :: st) t Q) := by
  rw [vc_q (o := (1, 0, 4, 1, [])) (by decide +kernel)]; rfl
theorem v_75_123 (xs : Option (List Int32)) (n : Nat) (b : Bool) (d : Nat) (ml : List Value) (t : T) (Q : Option Value → T → Prop) (st : List Value) : vc xs zH_75 (n + 1) b d 75 123 ml st t Q = (st.all zc1 = true ∧ vtk 3 st [] (fun as rest => rest.length ≤ 8 ∧ vrc as 12 (twc d 42 as t (fun r t' => vc xs zH_75 n true d 75 126 ml (r.toList ++ rest) t' Q)))) := by
  rw [vc_q (o := (36, 0, 42, 2, [(0, 12)])) (by decide +kernel)]; rfl
theorem v_75_126 (xs : Option (List Int32)) (n : Nat) (b : Bool) (d : Nat) (ml : List Value) (t : T) (Q : Option Value → T → Prop) (u : Int32) (r : List Value) : vc xs zH_75 (n + 1) b d 75 126 ml (.int u :: r) t Q = (if u = 0 then vc xs zH_75 n true d 75 133 ml r t Q else vc xs zH_75 n true d 75 129 ml r t Q) := by
  rw [vc_q (o := (21, 0, 133, 0, [])) (by decide +kernel)]; rfl
theorem v_75_129 (xs : Option (List Int32)) (n : Nat) (b : Bool) (d : Nat) (ml : List Value) (t : T) (Q : Option Value → T → Prop) (st : List Value) : vc xs zH_75 (n + 1) b d 75 129 ml st t Q = vc xs zH_75 n true d 75 130 ml (.int 1 :: st) t Q := by
  rw [vc_q (o := (0, 1, 0, 0, [])) (by decide +kernel)]; rfl
theorem v_75_130 (xs : Option (List Int32)) (n : Nat) (b : Bool) (d : Nat) (ml : List Value) (t : T) (Q : Option Value → T → Prop) (st : List Value) : vc xs zH_75 (n + 1) b d 75 130 ml st t Q = vc xs zH_75 n true d 75 134 ml st t Q := by
  rw [vc_q (o := (22, 0, 134, 0, [])) (by decide +kernel)]; rfl
theorem v_75_133 (xs : Option (List Int32)) (n : Nat) (b : Bool) (d : Nat) (ml : List Value) (t : T) (Q : Option Value → T → Prop) (st : List Value) : vc xs zH_75 (n + 1) b d 75 133 ml st t Q = vc xs zH_75 n true d 75 134 ml (.int 0 :: st) t Q := by
  rw [vc_q (o := (0, 0, 0, 0, [])) (by decide +kernel)]; rfl
theorem v_75_134 (xs : Option (List Int32)) (n : Nat) (b : Bool) (d : Nat) (ml : List Value) (t : T) (Q : Option Value → T → Prop) (v : Int32) (r : List Value) : vc xs zH_75 (n + 1) b d 75 134 ml (.int v :: r) t Q = vset ml 5 (.int v) (fun l => vc xs zH_75 n true d 75 136 l r t Q) := by
  rw [vc_q (o := (3, 0, 5, 1, [])) (by decide +kernel)]; rfl
theorem v_75_136 (xs : Option (List Int32)) (n : Nat) (b : Bool) (d : Nat) (ml : List Value) (t : T) (Q : Option Value → T → Prop) (st : List Value) : vc xs zH_75 (n + 1) b d 75 136 ml st t Q = vc xs zH_75 n true d 75 138 ml (.int 6 :: st) t Q := by
  rw [vc_q (o := (0, 6, 1, 0, [])) (by decide +kernel)]; rfl
theorem v_75_138 (xs : Option (List Int32)) (n : Nat) (b : Bool) (d : Nat) (ml : List Value) (t : T) (Q : Option Value → T → Prop) (v : Int32) (r : List Value) : vc xs zH_75 (n + 1) b d 75 138 ml (.int v :: r) t Q = vset ml 7 (.int v) (fun l => vc xs zH_75 n true d 75 140 l r t Q) := by
  rw [vc_q (o := (3, 0, 7, 1, [])) (by decide +kernel)]; rfl
theorem v_75_140 (xs : Option (List Int32)) (n : Nat) (d : Nat) (ml : List Value) (t : T) (Q : Option Value → T → Prop) (st : List Value) : vc xs zH_75 (n + 1) false d 75 140 ml st t Q = vgi ml 7 (fun v => vc xs zH_75 n true d 75 142 ml (.int v :: st) t Q) := by
  rw [vc_q (o := (1, 0, 7, 1, [])) (by decide +kernel)]; rfl
theorem h_75_140 (xs : Option (List Int32)) (n d : Nat) (ml st : List Value) (t : T) (Q : Option Value → T → Prop) : vc xs zH_75 (n + 1) true d 75 140 ml st t Q = twp xs d 75 140 ml st t Q := id rfl
theorem v_75_142 (xs : Option (List Int32)) (n : Nat) (b : Bool) (d : Nat) (ml : List Value) (t : T) (Q : Option Value → T → Prop) (st : List Value) : vc xs zH_75 (n + 1) b d 75 142 ml st t Q = vc xs zH_75 n true d 75 144 ml (.int 8 :: st) t Q := by
  rw [vc_q (o := (0, 8, 1, 0, [])) (by decide +kernel)]; rfl
theorem v_75_144 (xs : Option (List Int32)) (n : Nat) (b : Bool) (d : Nat) (ml : List Value) (t : T) (Q : Option Value → T → Prop) (u v : Int32) (r : List Value) : vc xs zH_75 (n + 1) b d 75 144 ml (.int v :: .int u :: r) t Q = (if u < v then vc xs zH_75 n true d 75 147 ml r t Q else vc xs zH_75 n true d 75 229 ml r t Q) := by
  rw [vc_q (o := (20, 0, 229, 3, [])) (by decide +kernel)]; rfl
theorem v_75_147 (xs : Option (List Int32)) (n : Nat) (b : Bool) (d : Nat) (ml : List Value) (t : T) (Q : Option Value → T → Prop) (st : List Value) : vc xs zH_75 (n + 1) b d 75 147 ml st t Q = vgi ml 5 (fun v => vc xs zH_75 n true d 75 149 ml (.int v :: st) t Q) := by
  rw [vc_q (o := (1, 0, 5, 1, [])) (by decide +kernel)]; rfl
theorem v_75_149 (xs : Option (List Int32)) (n : Nat) (b : Bool) (d : Nat) (ml : List Value) (t : T) (Q : Option Value → T → Prop) (u : Int32) (r : List Value) : vc xs zH_75 (n + 1) b d 75 149 ml (.int u :: r) t Q = (if u = 0 then vc xs zH_75 n true d 75 220 ml r t Q else vc xs zH_75 n true d 75 152 ml r t Q) := by
  rw [vc_q (o := (21, 0, 220, 0, [])) (by decide +kernel)]; rfl
theorem v_75_152 (xs : Option (List Int32)) (n : Nat) (b : Bool) (d : Nat) (ml : List Value) (t : T) (Q : Option Value → T → Prop) (st : List Value) : vc xs zH_75 (n + 1) b d 75 152 ml st t Q = vga ml 0 (fun v => vc xs zH_75 n true d 75 153 ml (.ref v :: st) t Q) := by
  rw [vc_q (o := (2, 0, 0, 0, [])) (by decide +kernel)]; rfl
theorem v_75_153 (xs : Option (List Int32)) (n : Nat) (b : Bool) (d : Nat) (ml : List Value) (t : T) (Q : Option Value → T → Prop) (st : List Value) : vc xs zH_75 (n + 1) b d 75 153 ml st t Q = vgi ml 1 (fun v => vc xs zH_75 n true d 75 154 ml (.int v :: st) t Q) := by
  rw [vc_q (o := (1, 0, 1, 0, [])) (by decide +kernel)]; rfl
theorem v_75_154 (xs : Option (List Int32)) (n : Nat) (b : Bool) (d : Nat) (ml : List Value) (t : T) (Q : Option Value → T → Prop) (st : List Value) : vc xs zH_75 (n + 1) b d 75 154 ml st t Q = vgi ml 7 (fun v => vc xs zH_75 n true d 75 156 ml (.int v :: st) t Q) := by
  rw [vc_q (o := (1, 0, 7, 1, [])) (by decide +kernel)]; rfl
theorem v_75_156 (xs : Option (List Int32)) (n : Nat) (b : Bool) (d : Nat) (ml : List Value) (t : T) (Q : Option Value → T → Prop) (st : List Value) : vc xs zH_75 (n + 1) b d 75 156 ml st t Q = vgi ml 3 (fun v => vc xs zH_75 n true d 75 157 ml (.int v :: st) t Q) := by
  rw [vc_q (o := (1, 0, 3, 0, [])) (by decide +kernel)]; rfl
theorem v_75_157 (xs : Option (List Int32)) (n : Nat) (b : Bool) (d : Nat) (ml : List Value) (t : T) (Q : Option Value → T → Prop) (st : List Value) : vc xs zH_75 (n + 1) b d 75 157 ml st t Q = vgi ml 6 (fun v => vc xs zH_75 n true d 75 159 ml (.int v :: st) t Q) := by
  rw [vc_q (o := (1, 0, 6, 1, [])) (by decide +kernel)]; rfl
theorem v_75_159 (xs : Option (List Int32)) (n : Nat) (b : Bool) (d : Nat) (ml : List Value) (t : T) (Q : Option Value → T → Prop) (st : List Value) : vc xs zH_75 (n + 1) b d 75 159 ml st t Q = (st.all zc1 = true ∧ vtk 5 st [] (fun as rest => rest.length ≤ 8 ∧ vrc as 12 (twc d 43 as t (fun r t' => vc xs zH_75 n true d 75 162 ml (r.toList ++ rest) t' Q)))) := by
  rw [vc_q (o := (36, 0, 43, 4, [(0, 12)])) (by decide +kernel)]; rfl
theorem v_75_162 (xs : Option (List Int32)) (n : Nat) (b : Bool) (d : Nat) (ml : List Value) (t : T) (Q : Option Value → T → Prop) (st : List Value) : vc xs zH_75 (n + 1) b d 75 162 ml st t Q = vga ml 0 (fun v => vc xs zH_75 n true d 75 163 ml (.ref v :: st) t Q) := by
  rw [vc_q (o := (2, 0, 0, 0, [])) (by decide +kernel)]; rfl
theorem v_75_163 (xs : Option (List Int32)) (n : Nat) (b : Bool) (d : Nat) (ml : List Value) (t : T) (Q : Option Value → T → Prop) (st : List Value) : vc xs zH_75 (n + 1) b d 75 163 ml st t Q = vgi ml 2 (fun v => vc xs zH_75 n true d 75 164 ml (.int v :: st) t Q) := by
  rw [vc_q (o := (1, 0, 2, 0, [])) (by decide +kernel)]; rfl
theorem v_75_164 (xs : Option (List Int32)) (n : Nat) (b : Bool) (d : Nat) (ml : List Value) (t : T) (Q : Option Value → T → Prop) (st : List Value) : vc xs zH_75 (n + 1) b d 75 164 ml st t Q = vgi ml 7 (fun v => vc xs zH_75 n true d 75 166 ml (.int v :: st) t Q) := by
  rw [vc_q (o := (1, 0, 7, 1, [])) (by decide +kernel)]; rfl
theorem v_75_166 (xs : Option (List Int32)) (n : Nat) (b : Bool) (d : Nat) (ml : List Value) (t : T) (Q : Option Value → T → Prop) (st : List Value) : vc xs zH_75 (n + 1) b d 75 166 ml st t Q = vgi ml 4 (fun v => vc xs zH_75 n true d 75 168 ml (.int v :: st) t Q) := by
  rw [vc_q (o := (1, 0, 4, 1, [])) (by decide +kernel)]; rfl
theorem v_75_168 (xs : Option (List Int32)) (n : Nat) (b : Bool) (d : Nat) (ml : List Value) (t : T) (Q : Option Value → T → Prop) (st : List Value) : vc xs zH_75 (n + 1) b d 75 168 ml st t Q = vga ml 0 (fun v => vc xs zH_75 n true d 75 169 ml (.ref v :: st) t Q) := by
  rw [vc_q (o := (2, 0, 0, 0, [])) (by decide +kernel)]; rfl
theorem v_75_169 (xs : Option (List Int32)) (n : Nat) (b : Bool) (d : Nat) (ml : List Value) (t : T) (Q : Option Value → T → Prop) (u : Nat) (r : List Value) : vc xs zH_75 (n + 1) b d 75 169 ml (.ref u :: r) t Q = (vtag u = 12 ∧ vc xs zH_75 n true d 75 172 ml (.ref (tref t u 37) :: r) t Q) := by
  rw [vc_q (o := (25, 0, 12, 37, [])) (by decide +kernel)]; rfl
theorem v_75_172 (xs : Option (List Int32)) (n : Nat) (b : Bool) (d : Nat) (ml : List Value) (t : T) (Q : Option Value → T → Prop) (st : List Value) : vc xs zH_75 (n + 1) b d 75 172 ml st t Q = vgi ml 6 (fun v => vc xs zH_75 n true d 75 174 ml (.int v :: st) t Q) := by
  rw [vc_q (o := (1, 0, 6, 1, [])) (by decide +kernel)]; rfl
theorem v_75_174 (xs : Option (List Int32)) (n : Nat) (b : Bool) (d : Nat) (ml : List Value) (t : T) (Q : Option Value → T → Prop) (v : Int32) (u : Nat) (r : List Value) : vc xs zH_75 (n + 1) b d 75 174 ml (.int v :: .ref u :: r) t Q = (vtag u = 100 ∧ vinb v (vlen u) ∧ vc xs zH_75 n true d 75 175 ml (.int (t.1 u v.toNatClampNeg) :: r) t Q) := by
  rw [vc_q (o := (29, 0, 0, 0, [])) (by decide +kernel)]; rfl
theorem v_75_175 (xs : Option (List Int32)) (n : Nat) (b : Bool) (d : Nat) (ml : List Value) (t : T) (Q : Option Value → T → Prop) (st : List Value) : vc xs zH_75 (n + 1) b d 75 175 ml st t Q = (st.all zc1 = true ∧ vtk 5 st [] (fun as rest => rest.length ≤ 8 ∧ vrc as 12 (twc d 43 as t (fun r t' => vc xs zH_75 n true d 75 178 ml (r.toList ++ rest) t' Q)))) := by
  rw [vc_q (o := (36, 0, 43, 4, [(0, 12)])) (by decide +kernel)]; rfl
theorem v_75_178 (xs : Option (List Int32)) (n : Nat) (b : Bool) (d : Nat) (ml : List Value) (t : T) (Q : Option Value → T → Prop) (st : List Value) : vc xs zH_75 (n + 1) b d 75 178 ml st t Q = (st.all zc1 = true ∧ vtk 2 st [] (fun as rest => rest.length ≤ 8 ∧ twc d 74 as t (fun r t' => vc xs zH_75 n true d 75 181 ml (r.toList ++ rest) t' Q))) := by
  rw [vc_q (o := (37, 0, 74, 2, [])) (by decide +kernel)]; rfl
theorem v_75_181 (xs : Option (List Int32)) (n : Nat) (b : Bool) (d : Nat) (ml : List Value) (t : T) (Q : Option Value → T → Prop) (u : Int32) (r : List Value) : vc xs zH_75 (n + 1) b d 75 181 ml (.int u :: r) t Q = (if u = 0 then vc xs zH_75 n true d 75 220 ml r t Q else vc xs zH_75 n true d 75 184 ml r t Q) := by
  rw [vc_q (o := (21, 0, 220, 0, [])) (by decide +kernel)]; rfl
theorem v_75_184 (xs : Option (List Int32)) (n : Nat) (b : Bool) (d : Nat) (ml : List Value) (t : T) (Q : Option Value → T → Prop) (st : List Value) : vc xs zH_75 (n + 1) b d 75 184 ml st t Q = vga ml 0 (fun v => vc xs zH_75 n true d 75 185 ml (.ref v :: st) t Q) := by
  rw [vc_q (o := (2, 0, 0, 0, [])) (by decide +kernel)]; rfl
theorem v_75_185 (xs : Option (List Int32)) (n : Nat) (b : Bool) (d : Nat) (ml : List Value) (t : T) (Q : Option Value → T → Prop) (st : List Value) : vc xs zH_75 (n + 1) b d 75 185 ml st t Q = vgi ml 1 (fun v => vc xs zH_75 n true d 75 186 ml (.int v :: st) t Q) := by
  rw [vc_q (o := (1, 0, 1, 0, [])) (by decide +kernel)]; rfl
theorem v_75_186 (xs : Option (List Int32)) (n : Nat) (b : Bool) (d : Nat) (ml : List Value) (t : T) (Q : Option Value → T → Prop) (st : List Value) : vc xs zH_75 (n + 1) b d 75 186 ml st t Q = vgi ml 7 (fun v => vc xs zH_75 n true d 75 188 ml (.int v :: st) t Q) := by
  rw [vc_q (o := (1, 0, 7, 1, [])) (by decide +kernel)]; rfl
theorem v_75_188 (xs : Option (List Int32)) (n : Nat) (b : Bool) (d : Nat) (ml : List Value) (t : T) (Q : Option Value → T → Prop) (st : List Value) : vc xs zH_75 (n + 1) b d 75 188 ml st t Q = vgi ml 6 (fun v => vc xs zH_75 n true d 75 190 ml (.int v :: st) t Q) := by
  rw [vc_q (o := (1, 0, 6, 1, [])) (by decide +kernel)]; rfl
theorem v_75_190 (xs : Option (List Int32)) (n : Nat) (b : Bool) (d : Nat) (ml : List Value) (t : T) (Q : Option Value → T → Prop) (st : List Value) : vc xs zH_75 (n + 1) b d 75 190 ml st t Q = vgi ml 3 (fun v => vc xs zH_75 n true d 75 191 ml (.int v :: st) t Q) := by
  rw [vc_q (o := (1, 0, 3, 0, [])) (by decide +kernel)]; rfl
theorem v_75_191 (xs : Option (List Int32)) (n : Nat) (b : Bool) (d : Nat) (ml : List Value) (t : T) (Q : Option Value → T → Prop) (st : List Value) : vc xs zH_75 (n + 1) b d 75 191 ml st t Q = (st.all zc1 = true ∧ vtk 5 st [] (fun as rest => rest.length ≤ 8 ∧ vrc as 12 (twc d 43 as t (fun r t' => vc xs zH_75 n true d 75 194 ml (r.toList ++ rest) t' Q)))) := by
  rw [vc_q (o := (36, 0, 43, 4, [(0, 12)])) (by decide +kernel)]; rfl
theorem v_75_194 (xs : Option (List Int32)) (n : Nat) (b : Bool) (d : Nat) (ml : List Value) (t : T) (Q : Option Value → T → Prop) (st : List Value) : vc xs zH_75 (n + 1) b d 75 194 ml st t Q = vga ml 0 (fun v => vc xs zH_75 n true d 75 195 ml (.ref v :: st) t Q) := by
  rw [vc_q (o := (2, 0, 0, 0, [])) (by decide +kernel)]; rfl
theorem v_75_195 (xs : Option (List Int32)) (n : Nat) (b : Bool) (d : Nat) (ml : List Value) (t : T) (Q : Option Value → T → Prop) (st : List Value) : vc xs zH_75 (n + 1) b d 75 195 ml st t Q = vgi ml 2 (fun v => vc xs zH_75 n true d 75 196 ml (.int v :: st) t Q) := by
  rw [vc_q (o := (1, 0, 2, 0, [])) (by decide +kernel)]; rfl
theorem v_75_196 (xs : Option (List Int32)) (n : Nat) (b : Bool) (d : Nat) (ml : List Value) (t : T) (Q : Option Value → T → Prop) (st : List Value) : vc xs zH_75 (n + 1) b d 75 196 ml st t Q = vgi ml 7 (fun v => vc xs zH_75 n true d 75 198 ml (.int v :: st) t Q) := by
  rw [vc_q (o := (1, 0, 7, 1, [])) (by decide +kernel)]; rfl
theorem v_75_198 (xs : Option (List Int32)) (n : Nat) (b : Bool) (d : Nat) (ml : List Value) (t : T) (Q : Option Value → T → Prop) (st : List Value) : vc xs zH_75 (n + 1) b d 75 198 ml st t Q = vga ml 0 (fun v => vc xs zH_75 n true d 75 199 ml (.ref v :: st) t Q) := by
  rw [vc_q (o := (2, 0, 0, 0, [])) (by decide +kernel)]; rfl
theorem v_75_199 (xs : Option (List Int32)) (n : Nat) (b : Bool) (d : Nat) (ml : List Value) (t : T) (Q : Option Value → T → Prop) (u : Nat) (r : List Value) : vc xs zH_75 (n + 1) b d 75 199 ml (.ref u :: r) t Q = (vtag u = 12 ∧ vc xs zH_75 n true d 75 202 ml (.ref (tref t u 37) :: r) t Q) := by
  rw [vc_q (o := (25, 0, 12, 37, [])) (by decide +kernel)]; rfl
theorem v_75_202 (xs : Option (List Int32)) (n : Nat) (b : Bool) (d : Nat) (ml : List Value) (t : T) (Q : Option Value → T → Prop) (st : List Value) : vc xs zH_75 (n + 1) b d 75 202 ml st t Q = vgi ml 6 (fun v => vc xs zH_75 n true d 75 204 ml (.int v :: st) t Q) := by
  rw [vc_q (o := (1, 0, 6, 1, [])) (by decide +kernel)]; rfl
theorem v_75_204 (xs : Option (List Int32)) (n : Nat) (b : Bool) (d : Nat) (ml : List Value) (t : T) (Q : Option Value → T → Prop) (v : Int32) (u : Nat) (r : List Value) : vc xs zH_75 (n + 1) b d 75 204 ml (.int v :: .ref u :: r) t Q = (vtag u = 100 ∧ vinb v (vlen u) ∧ vc xs zH_75 n true d 75 205 ml (.int (t.1 u v.toNatClampNeg) :: r) t Q) := by
  rw [vc_q (o := (29, 0, 0, 0, [])) (by decide +kernel)]; rfl
theorem v_75_205 (xs : Option (List Int32)) (n : Nat) (b : Bool) (d : Nat) (ml : List Value) (t : T) (Q : Option Value → T → Prop) (st : List Value) : vc xs zH_75 (n + 1) b d 75 205 ml st t Q = vgi ml 4 (fun v => vc xs zH_75 n true d 75 207 ml (.int v :: st) t Q) := by
  rw [vc_q (o := (1, 0, 4, 1, [])) (by decide +kernel)]; rfl
theorem v_75_207 (xs : Option (List Int32)) (n : Nat) (b : Bool) (d : Nat) (ml : List Value) (t : T) (Q : Option Value → T → Prop) (st : List Value) : vc xs zH_75 (n + 1) b d 75 207 ml st t Q = (st.all zc1 = true ∧ vtk 5 st [] (fun as rest => rest.length ≤ 8 ∧ vrc as 12 (twc d 43 as t (fun r t' => vc xs zH_75 n true d 75 210 ml (r.toList ++ rest) t' Q)))) := by
  rw [vc_q (o := (36, 0, 43, 4, [(0, 12)])) (by decide +kernel)]; rfl
theorem v_75_210 (xs : Option (List Int32)) (n : Nat) (b : Bool) (d : Nat) (ml : List Value) (t : T) (Q : Option Value → T → Prop) (st : List Value) : vc xs zH_75 (n + 1) b d 75 210 ml st t Q = (st.all zc1 = true ∧ vtk 2 st [] (fun as rest => rest.length ≤ 8 ∧ twc d 74 as t (fun r t' => vc xs zH_75 n true d 75 213 ml (r.toList ++ rest) t' Q))) := by
  rw [vc_q (o := (37, 0, 74, 2, [])) (by decide +kernel)]; rfl
theorem v_75_213 (xs : Option (List Int32)) (n : Nat) (b : Bool) (d : Nat) (ml : List Value) (t : T) (Q : Option Value → T → Prop) (u : Int32) (r : List Value) : vc xs zH_75 (n + 1) b d 75 213 ml (.int u :: r) t Q = (if u = 0 then vc xs zH_75 n true d 75 220 ml r t Q else vc xs zH_75 n true d 75 216 ml r t Q) := by
  rw [vc_q (o := (21, 0, 220, 0, [])) (by decide +kernel)]; rfl
theorem v_75_216 (xs : Option (List Int32)) (n : Nat) (b : Bool) (d : Nat) (ml : List Value) (t : T) (Q : Option Value → T → Prop) (st : List Value) : vc xs zH_75 (n + 1) b d 75 216 ml st t Q = vc xs zH_75 n true d 75 217 ml (.int 1 :: st) t Q := by
  rw [vc_q (o := (0, 1, 0, 0, [])) (by decide +kernel)]; rfl
theorem v_75_217 (xs : Option (List Int32)) (n : Nat) (b : Bool) (d : Nat) (ml : List Value) (t : T) (Q : Option Value → T → Prop) (st : List Value) : vc xs zH_75 (n + 1) b d 75 217 ml st t Q = vc xs zH_75 n true d 75 221 ml st t Q := by
  rw [vc_q (o := (22, 0, 221, 0, [])) (by decide +kernel)]; rfl
theorem v_75_220 (xs : Option (List Int32)) (n : Nat) (b : Bool) (d : Nat) (ml : List Value) (t : T) (Q : Option Value → T → Prop) (st : List Value) : vc xs zH_75 (n + 1) b d 75 220 ml st t Q = vc xs zH_75 n true d 75 221 ml (.int 0 :: st) t Q := by
  rw [vc_q (o := (0, 0, 0, 0, [])) (by decide +kernel)]; rfl
theorem v_75_221 (xs : Option (List Int32)) (n : Nat) (b : Bool) (d : Nat) (ml : List Value) (t : T) (Q : Option Value → T → Prop) (v : Int32) (r : List Value) : vc xs zH_75 (n + 1) b d 75 221 ml (.int v :: r) t Q = vset ml 5 (.int v) (fun l => vc xs zH_75 n true d 75 223 l r t Q) := by
  rw [vc_q (o := (3, 0, 5, 1, [])) (by decide +kernel)]; rfl
theorem v_75_223 (xs : Option (List Int32)) (n : Nat) (b : Bool) (d : Nat) (ml : List Value) (t : T) (Q : Option Value → T → Prop) (st : List Value) : vc xs zH_75 (n + 1) b d 75 223 ml st t Q = vgi ml 7 (fun v => vset ml 7 (.int (v + 1)) (fun l => vc xs zH_75 n true d 75 226 l st t Q)) := by
  rw [vc_q (o := (5, 1, 7, 0, [])) (by decide +kernel)]; rfl
theorem v_75_226 (xs : Option (List Int32)) (n : Nat) (b : Bool) (d : Nat) (ml : List Value) (t : T) (Q : Option Value → T → Prop) (st : List Value) : vc xs zH_75 (n + 1) b d 75 226 ml st t Q = vc xs zH_75 n true d 75 140 ml st t Q := by
  rw [vc_q (o := (22, 0, 140, 0, [])) (by decide +kernel)]; rfl
theorem v_75_229 (xs : Option (List Int32)) (n : Nat) (b : Bool) (d : Nat) (ml : List Value) (t : T) (Q : Option Value → T → Prop) (st : List Value) : vc xs zH_75 (n + 1) b d 75 229 ml st t Q = vgi ml 6 (fun v => vset ml 6 (.int (v + 1)) (fun l => vc xs zH_75 n true d 75 232 l st t Q)) := by
  rw [vc_q (o := (5, 1, 6, 0, [])) (by decide +kernel)]; rfl
theorem v_75_232 (xs : Option (List Int32)) (n : Nat) (b : Bool) (d : Nat) (ml : List Value) (t : T) (Q : Option Value → T → Prop) (st : List Value) : vc xs zH_75 (n + 1) b d 75 232 ml st t Q = vc xs zH_75 n true d 75 90 ml st t Q := by
  rw [vc_q (o := (22, 0, 90, 0, [])) (by decide +kernel)]; rfl
theorem v_75_235 (xs : Option (List Int32)) (n : Nat) (b : Bool) (d : Nat) (ml : List Value) (t : T) (Q : Option Value → T → Prop) (st : List Value) : vc xs zH_75 (n + 1) b d 75 235 ml st t Q = vgi ml 5 (fun v => vc xs zH_75 n true d 75 237 ml (.int v :: st) t Q) := by
  rw [vc_q (o := (1, 0, 5, 1, [])) (by decide +kernel)]; rfl
theorem v_75_237 (xs : Option (List Int32)) (n : Nat) (b : Bool) (d : Nat) (ml : List Value) (t : T) (Q : Option Value → T → Prop) (v : Int32) : vc xs zH_75 (n + 1) b d 75 237 ml [.int v] t Q = ((v = 0 ∨ v = 1) ∧ Q (some (.int v)) t) := by
  rw [vc_q (o := (41, 0, 0, 0, [])) (by decide +kernel)]; rfl
def zH_76 : List Nat := [5]
theorem v_76_0 (xs : Option (List Int32)) (n : Nat) (b : Bool) (d : Nat) (ml : List Value) (t : T) (Q : Option Value → T → Prop) (st : List Value) : vc xs zH_76 (n + 1) b d 76 0 ml st t Q = vc xs zH_76 n true d 76 1 ml (.int 0 :: st) t Q := by
  rw [vc_q (o := (0, 0, 0, 0, [])) (by decide +kernel)]; rfl
theorem v_76_1 (xs : Option (List Int32)) (n : Nat) (b : Bool) (d : Nat) (ml : List Value) (t : T) (Q : Option Value → T → Prop) (v : Int32) (r : List Value) : vc xs zH_76 (n + 1) b d 76 1 ml (.int v :: r) t Q = vset ml 3 (.int v) (fun l => vc xs zH_76 n true d 76 2 l r t Q) := by
  rw [vc_q (o := (3, 0, 3, 0, [])) (by decide +kernel)]; rfl
theorem v_76_2 (xs : Option (List Int32)) (n : Nat) (b : Bool) (d : Nat) (ml : List Value) (t : T) (Q : Option Value → T → Prop) (st : List Value) : vc xs zH_76 (n + 1) b d 76 2 ml st t Q = vc xs zH_76 n true d 76 3 ml (.int 0 :: st) t Q := by
  rw [vc_q (o := (0, 0, 0, 0, [])) (by decide +kernel)]; rfl
theorem v_76_3 (xs : Option (List Int32)) (n : Nat) (b : Bool) (d : Nat) (ml : List Value) (t : T) (Q : Option Value → T → Prop) (v : Int32) (r : List Value) : vc xs zH_76 (n + 1) b d 76 3 ml (.int v :: r) t Q = vset ml 4 (.int v) (fun l => vc xs zH_76 n true d 76 5 l r t Q) := by
  rw [vc_q (o := (3, 0, 4, 1, [])) (by decide +kernel)]; rfl
theorem v_76_5 (xs : Option (List Int32)) (n : Nat) (d : Nat) (ml : List Value) (t : T) (Q : Option Value → T → Prop) (st : List Value) : vc xs zH_76 (n + 1) false d 76 5 ml st t Q = vgi ml 4 (fun v => vc xs zH_76 n true d 76 7 ml (.int v :: st) t Q) := by
  rw [vc_q (o := (1, 0, 4, 1, [])) (by decide +kernel)]; rfl
theorem h_76_5 (xs : Option (List Int32)) (n d : Nat) (ml st : List Value) (t : T) (Q : Option Value → T → Prop) : vc xs zH_76 (n + 1) true d 76 5 ml st t Q = twp xs d 76 5 ml st t Q := id rfl
theorem v_76_7 (xs : Option (List Int32)) (n : Nat) (b : Bool) (d : Nat) (ml : List Value) (t : T) (Q : Option Value → T → Prop) (st : List Value) : vc xs zH_76 (n + 1) b d 76 7 ml st t Q = vgi ml 1 (fun v => vc xs zH_76 n true d 76 8 ml (.int v :: st) t Q) := by
  rw [vc_q (o := (1, 0, 1, 0, [])) (by decide +kernel)]; rfl
theorem v_76_8 (xs : Option (List Int32)) (n : Nat) (b : Bool) (d : Nat) (ml : List Value) (t : T) (Q : Option Value → T → Prop) (u v : Int32) (r : List Value) : vc xs zH_76 (n + 1) b d 76 8 ml (.int v :: .int u :: r) t Q = (if u < v then vc xs zH_76 n true d 76 11 ml r t Q else vc xs zH_76 n true d 76 29 ml r t Q) := by
  rw [vc_q (o := (20, 0, 29, 3, [])) (by decide +kernel)]; rfl
theorem v_76_11 (xs : Option (List Int32)) (n : Nat) (b : Bool) (d : Nat) (ml : List Value) (t : T) (Q : Option Value → T → Prop) (st : List Value) : vc xs zH_76 (n + 1) b d 76 11 ml st t Q = vgi ml 3 (fun v => vc xs zH_76 n true d 76 12 ml (.int v :: st) t Q) := by
  rw [vc_q (o := (1, 0, 3, 0, [])) (by decide +kernel)]; rfl
theorem v_76_12 (xs : Option (List Int32)) (n : Nat) (b : Bool) (d : Nat) (ml : List Value) (t : T) (Q : Option Value → T → Prop) (st : List Value) : vc xs zH_76 (n + 1) b d 76 12 ml st t Q = vc xs zH_76 n true d 76 13 ml (.int 1 :: st) t Q := by
  rw [vc_q (o := (0, 1, 0, 0, [])) (by decide +kernel)]; rfl
theorem v_76_13 (xs : Option (List Int32)) (n : Nat) (b : Bool) (d : Nat) (ml : List Value) (t : T) (Q : Option Value → T → Prop) (st : List Value) : vc xs zH_76 (n + 1) b d 76 13 ml st t Q = vga ml 0 (fun v => vc xs zH_76 n true d 76 14 ml (.ref v :: st) t Q) := by
  rw [vc_q (o := (2, 0, 0, 0, [])) (by decide +kernel)]; rfl
theorem v_76_14 (xs : Option (List Int32)) (n : Nat) (b : Bool) (d : Nat) (ml : List Value) (t : T) (Q : Option Value → T → Prop) (u : Nat) (r : List Value) : vc xs zH_76 (n + 1) b d 76 14 ml (.ref u :: r) t Q = (vtag u = 12 ∧ vc xs zH_76 n true d 76 17 ml (.ref (tref t u 37) :: r) t Q) := by
  rw [vc_q (o := (25, 0, 12, 37, [])) (by decide +kernel)]; rfl
theorem v_76_17 (xs : Option (List Int32)) (n : Nat) (b : Bool) (d : Nat) (ml : List Value) (t : T) (Q : Option Value → T → Prop) (st : List Value) : vc xs zH_76 (n + 1) b d 76 17 ml st t Q = vgi ml 4 (fun v => vc xs zH_76 n true d 76 19 ml (.int v :: st) t Q) := by
  rw [vc_q (o := (1, 0, 4, 1, [])) (by decide +kernel)]; rfl
theorem v_76_19 (xs : Option (List Int32)) (n : Nat) (b : Bool) (d : Nat) (ml : List Value) (t : T) (Q : Option Value → T → Prop) (v : Int32) (u : Nat) (r : List Value) : vc xs zH_76 (n + 1) b d 76 19 ml (.int v :: .ref u :: r) t Q = (vtag u = 100 ∧ vinb v (vlen u) ∧ vc xs zH_76 n true d 76 20 ml (.int (t.1 u v.toNatClampNeg) :: r) t Q) := by
  rw [vc_q (o := (29, 0, 0, 0, [])) (by decide +kernel)]; rfl
theorem v_76_20 (xs : Option (List Int32)) (n : Nat) (b : Bool) (d : Nat) (ml : List Value) (t : T) (Q : Option Value → T → Prop) (u v : Int32) (r : List Value) : vc xs zH_76 (n + 1) b d 76 20 ml (.int v :: .int u :: r) t Q = vc xs zH_76 n true d 76 21 ml (.int (u <<< (v &&& 31)) :: r) t Q := by
  rw [vc_q (o := (12, 0, 0, 0, [])) (by decide +kernel)]; rfl
theorem v_76_21 (xs : Option (List Int32)) (n : Nat) (b : Bool) (d : Nat) (ml : List Value) (t : T) (Q : Option Value → T → Prop) (u v : Int32) (r : List Value) : vc xs zH_76 (n + 1) b d 76 21 ml (.int v :: .int u :: r) t Q = vc xs zH_76 n true d 76 22 ml (.int (u ||| v) :: r) t Q := by
  rw [vc_q (o := (10, 0, 0, 0, [])) (by decide +kernel)]; rfl
theorem v_76_22 (xs : Option (List Int32)) (n : Nat) (b : Bool) (d : Nat) (ml : List Value) (t : T) (Q : Option Value → T → Prop) (v : Int32) (r : List Value) : vc xs zH_76 (n + 1) b d 76 22 ml (.int v :: r) t Q = vset ml 3 (.int v) (fun l => vc xs zH_76 n true d 76 23 l r t Q) := by
  rw [vc_q (o := (3, 0, 3, 0, [])) (by decide +kernel)]; rfl
theorem v_76_23 (xs : Option (List Int32)) (n : Nat) (b : Bool) (d : Nat) (ml : List Value) (t : T) (Q : Option Value → T → Prop) (st : List Value) : vc xs zH_76 (n + 1) b d 76 23 ml st t Q = vgi ml 4 (fun v => vset ml 4 (.int (v + 1)) (fun l => vc xs zH_76 n true d 76 26 l st t Q)) := by
  rw [vc_q (o := (5, 1, 4, 0, [])) (by decide +kernel)]; rfl
theorem v_76_26 (xs : Option (List Int32)) (n : Nat) (b : Bool) (d : Nat) (ml : List Value) (t : T) (Q : Option Value → T → Prop) (st : List Value) : vc xs zH_76 (n + 1) b d 76 26 ml st t Q = vc xs zH_76 n true d 76 5 ml st t Q := by
  rw [vc_q (o := (22, 0, 5, 0, [])) (by decide +kernel)]; rfl
theorem v_76_29 (xs : Option (List Int32)) (n : Nat) (b : Bool) (d : Nat) (ml : List Value) (t : T) (Q : Option Value → T → Prop) (st : List Value) : vc xs zH_76 (n + 1) b d 76 29 ml st t Q = vgi ml 3 (fun v => vc xs zH_76 n true d 76 30 ml (.int v :: st) t Q) := by
  rw [vc_q (o := (1, 0, 3, 0, [])) (by decide +kernel)]; rfl
theorem v_76_30 (xs : Option (List Int32)) (n : Nat) (b : Bool) (d : Nat) (ml : List Value) (t : T) (Q : Option Value → T → Prop) (st : List Value) : vc xs zH_76 (n + 1) b d 76 30 ml st t Q = vc xs zH_76 n true d 76 31 ml (.int 1 :: st) t Q := by
  rw [vc_q (o := (0, 1, 0, 0, [])) (by decide +kernel)]; rfl
theorem v_76_31 (xs : Option (List Int32)) (n : Nat) (b : Bool) (d : Nat) (ml : List Value) (t : T) (Q : Option Value → T → Prop) (st : List Value) : vc xs zH_76 (n + 1) b d 76 31 ml st t Q = vgi ml 2 (fun v => vc xs zH_76 n true d 76 32 ml (.int v :: st) t Q) := by
  rw [vc_q (o := (1, 0, 2, 0, [])) (by decide +kernel)]; rfl
theorem v_76_32 (xs : Option (List Int32)) (n : Nat) (b : Bool) (d : Nat) (ml : List Value) (t : T) (Q : Option Value → T → Prop) (u v : Int32) (r : List Value) : vc xs zH_76 (n + 1) b d 76 32 ml (.int v :: .int u :: r) t Q = vc xs zH_76 n true d 76 33 ml (.int (u <<< (v &&& 31)) :: r) t Q := by
  rw [vc_q (o := (12, 0, 0, 0, [])) (by decide +kernel)]; rfl
theorem v_76_33 (xs : Option (List Int32)) (n : Nat) (b : Bool) (d : Nat) (ml : List Value) (t : T) (Q : Option Value → T → Prop) (st : List Value) : vc xs zH_76 (n + 1) b d 76 33 ml st t Q = vc xs zH_76 n true d 76 34 ml (.int 1 :: st) t Q := by
  rw [vc_q (o := (0, 1, 0, 0, [])) (by decide +kernel)]; rfl
theorem v_76_34 (xs : Option (List Int32)) (n : Nat) (b : Bool) (d : Nat) (ml : List Value) (t : T) (Q : Option Value → T → Prop) (u v : Int32) (r : List Value) : vc xs zH_76 (n + 1) b d 76 34 ml (.int v :: .int u :: r) t Q = vc xs zH_76 n true d 76 35 ml (.int (u - v) :: r) t Q := by
  rw [vc_q (o := (7, 0, 0, 0, [])) (by decide +kernel)]; rfl
theorem v_76_35 (xs : Option (List Int32)) (n : Nat) (b : Bool) (d : Nat) (ml : List Value) (t : T) (Q : Option Value → T → Prop) (u v : Int32) (r : List Value) : vc xs zH_76 (n + 1) b d 76 35 ml (.int v :: .int u :: r) t Q = (if u = v then vc xs zH_76 n true d 76 38 ml r t Q else vc xs zH_76 n true d 76 42 ml r t Q) := by
  rw [vc_q (o := (20, 0, 42, 1, [])) (by decide +kernel)]; rfl
theorem v_76_38 (xs : Option (List Int32)) (n : Nat) (b : Bool) (d : Nat) (ml : List Value) (t : T) (Q : Option Value → T → Prop) (st : List Value) : vc xs zH_76 (n + 1) b d 76 38 ml st t Q = vc xs zH_76 n true d 76 39 ml (.int 1 :: st) t Q := by
  rw [vc_q (o := (0, 1, 0, 0, [])) (by decide +kernel)]; rfl
theorem v_76_39 (xs : Option (List Int32)) (n : Nat) (b : Bool) (d : Nat) (ml : List Value) (t : T) (Q : Option Value → T → Prop) (st : List Value) : vc xs zH_76 (n + 1) b d 76 39 ml st t Q = vc xs zH_76 n true d 76 43 ml st t Q := by
  rw [vc_q (o := (22, 0, 43, 0, [])) (by decide +kernel)]; rfl
theorem v_76_42 (xs : Option (List Int32)) (n : Nat) (b : Bool) (d : Nat) (ml : List Value) (t : T) (Q : Option Value → T → Prop) (st : List Value) : vc xs zH_76 (n + 1) b d 76 42 ml st t Q = vc xs zH_76 n true d 76 43 ml (.int 0 :: st) t Q := by
  rw [vc_q (o := (0, 0, 0, 0, [])) (by decide +kernel)]; rfl
theorem v_76_43 (xs : Option (List Int32)) (n : Nat) (b : Bool) (d : Nat) (ml : List Value) (t : T) (Q : Option Value → T → Prop) (v : Int32) : vc xs zH_76 (n + 1) b d 76 43 ml [.int v] t Q = ((v = 0 ∨ v = 1) ∧ Q (some (.int v)) t) := by
  rw [vc_q (o := (41, 0, 0, 0, [])) (by decide +kernel)]; rfl
