def zH_142 : List Nat := [4, 102, 117]
theorem v_142_0 (xs : Option (List Int32)) (n : Nat) (b : Bool) (d : Nat) (ml : List Value) (t : T) (Q : Option Value → T → Prop) (st : List Value) : vc xs zH_142 (n + 1) b d 142 0 ml st t Q = vc xs zH_142 n true d 142 1 ml (.int 0 :: st) t Q := by
  rw [vc_q (o := (0, 0, 0, 0, [])) (by decide +kernel)]; rfl
theorem v_142_1 (xs : Option (List Int32)) (n : Nat) (b : Bool) (d : Nat) (ml : List Value) (t : T) (Q : Option Value → T → Prop) (v : Int32) (r : List Value) : vc xs zH_142 (n + 1) b d 142 1 ml (.int v :: r) t Q = vset ml 2 (.int v) (fun l => vc xs zH_142 n true d 142 2 l r t Q) := by
  rw [vc_q (o := (3, 0, 2, 0, [])) (by decide +kernel)]; rfl
theorem v_142_2 (xs : Option (List Int32)) (n : Nat) (b : Bool) (d : Nat) (ml : List Value) (t : T) (Q : Option Value → T → Prop) (st : List Value) : vc xs zH_142 (n + 1) b d 142 2 ml st t Q = vc xs zH_142 n true d 142 3 ml (.int 0 :: st) t Q := by
  rw [vc_q (o := (0, 0, 0, 0, [])) (by decide +kernel)]; rfl
theorem v_142_3 (xs : Option (List Int32)) (n : Nat) (b : Bool) (d : Nat) (ml : List Value) (t : T) (Q : Option Value → T → Prop) (v : Int32) (r : List Value) : vc xs zH_142 (n + 1) b d 142 3 ml (.int v :: r) t Q = vset ml 3 (.int v) (fun l => vc xs zH_142 n true d 142 4 l r t Q) := by
  rw [vc_q (o := (3, 0, 3, 0, [])) (by decide +kernel)]; rfl
theorem v_142_4 (xs : Option (List Int32)) (n : Nat) (d : Nat) (ml : List Value) (t : T) (Q : Option Value → T → Prop) (st : List Value) : vc xs zH_142 (n + 1) false d 142 4 ml st t Q = vgi ml 3 (fun v => vc xs zH_142 n true d 142 5 ml (.int v :: st) t Q) := by
  rw [vc_q (o := (1, 0, 3, 0, [])) (by decide +kernel)]; rfl
theorem h_142_4 (xs : Option (List Int32)) (n d : Nat) (ml st : List Value) (t : T) (Q : Option Value → T → Prop) : vc xs zH_142 (n + 1) true d 142 4 ml st t Q = twp xs d 142 4 ml st t Q := id rfl
theorem v_142_5 (xs : Option (List Int32)) (n : Nat) (b : Bool) (d : Nat) (ml : List Value) (t : T) (Q : Option Value → T → Prop) (st : List Value) : vc xs zH_142 (n + 1) b d 142 5 ml st t Q = vgi ml 1 (fun v => vc xs zH_142 n true d 142 6 ml (.int v :: st) t Q) := by
  rw [vc_q (o := (1, 0, 1, 0, [])) (by decide +kernel)]; rfl
theorem v_142_6 (xs : Option (List Int32)) (n : Nat) (b : Bool) (d : Nat) (ml : List Value) (t : T) (Q : Option Value → T → Prop) (u v : Int32) (r : List Value) : vc xs zH_142 (n + 1) b d 142 6 ml (.int v :: .int u :: r) t Q = (if u < v then vc xs zH_142 n true d 142 9 ml r t Q else vc xs zH_142 n true d 142 100 ml r t Q) := by
  rw [vc_q (o := (20, 0, 100, 3, [])) (by decide +kernel)]; rfl
theorem v_142_9 (xs : Option (List Int32)) (n : Nat) (b : Bool) (d : Nat) (ml : List Value) (t : T) (Q : Option Value → T → Prop) (st : List Value) : vc xs zH_142 (n + 1) b d 142 9 ml st t Q = vga ml 0 (fun v => vc xs zH_142 n true d 142 10 ml (.ref v :: st) t Q) := by
  rw [vc_q (o := (2, 0, 0, 0, [])) (by decide +kernel)]; rfl
theorem v_142_10 (xs : Option (List Int32)) (n : Nat) (b : Bool) (d : Nat) (ml : List Value) (t : T) (Q : Option Value → T → Prop) (u : Nat) (r : List Value) : vc xs zH_142 (n + 1) b d 142 10 ml (.ref u :: r) t Q = (vtag u = 9 ∧ vc xs zH_142 n true d 142 13 ml (.ref (tref t u 1) :: r) t Q) := by
  rw [vc_q (o := (25, 0, 9, 1, [])) (by decide +kernel)]; rfl
theorem v_142_13 (xs : Option (List Int32)) (n : Nat) (b : Bool) (d : Nat) (ml : List Value) (t : T) (Q : Option Value → T → Prop) (st : List Value) : vc xs zH_142 (n + 1) b d 142 13 ml st t Q = vgi ml 3 (fun v => vc xs zH_142 n true d 142 14 ml (.int v :: st) t Q) := by
  rw [vc_q (o := (1, 0, 3, 0, [])) (by decide +kernel)]; rfl
theorem v_142_14 (xs : Option (List Int32)) (n : Nat) (b : Bool) (d : Nat) (ml : List Value) (t : T) (Q : Option Value → T → Prop) (st : List Value) : vc xs zH_142 (n + 1) b d 142 14 ml st t Q = vga ml 0 (fun v => vc xs zH_142 n true d 142 15 ml (.ref v :: st) t Q) := by
  rw [vc_q (o := (2, 0, 0, 0, [])) (by decide +kernel)]; rfl
theorem v_142_15 (xs : Option (List Int32)) (n : Nat) (b : Bool) (d : Nat) (ml : List Value) (t : T) (Q : Option Value → T → Prop) (u : Nat) (r : List Value) : vc xs zH_142 (n + 1) b d 142 15 ml (.ref u :: r) t Q = (vtag u = 9 ∧ vc xs zH_142 n true d 142 18 ml (.ref (tref t u 0) :: r) t Q) := by
  rw [vc_q (o := (25, 0, 9, 0, [])) (by decide +kernel)]; rfl
theorem v_142_18 (xs : Option (List Int32)) (n : Nat) (b : Bool) (d : Nat) (ml : List Value) (t : T) (Q : Option Value → T → Prop) (st : List Value) : vc xs zH_142 (n + 1) b d 142 18 ml st t Q = vc xs zH_142 n true d 142 19 ml (.int 2 :: st) t Q := by
  rw [vc_q (o := (0, 2, 0, 0, [])) (by decide +kernel)]; rfl
theorem v_142_19 (xs : Option (List Int32)) (n : Nat) (b : Bool) (d : Nat) (ml : List Value) (t : T) (Q : Option Value → T → Prop) (st : List Value) : vc xs zH_142 (n + 1) b d 142 19 ml st t Q = vgi ml 3 (fun v => vc xs zH_142 n true d 142 20 ml (.int v :: st) t Q) := by
  rw [vc_q (o := (1, 0, 3, 0, [])) (by decide +kernel)]; rfl
theorem v_142_20 (xs : Option (List Int32)) (n : Nat) (b : Bool) (d : Nat) (ml : List Value) (t : T) (Q : Option Value → T → Prop) (st : List Value) : vc xs zH_142 (n + 1) b d 142 20 ml st t Q = vc xs zH_142 n true d 142 21 ml (.int 0 :: st) t Q := by
  rw [vc_q (o := (0, 0, 0, 0, [])) (by decide +kernel)]; rfl
theorem v_142_21 (xs : Option (List Int32)) (n : Nat) (b : Bool) (d : Nat) (ml : List Value) (t : T) (Q : Option Value → T → Prop) (st : List Value) : vc xs zH_142 (n + 1) b d 142 21 ml st t Q = (st.all zc1 = true ∧ vtk 4 st [] (fun as rest => rest.length ≤ 8 ∧ vrc as 4 (twc d 162 as t (fun r t' => vc xs zH_142 n true d 142 24 ml (r.toList ++ rest) t' Q)))) := by
  rw [vc_q (o := (36, 0, 162, 3, [(0, 4)])) (by decide +kernel)]; rfl
theorem v_142_24 (xs : Option (List Int32)) (n : Nat) (b : Bool) (d : Nat) (ml : List Value) (t : T) (Q : Option Value → T → Prop) (st : List Value) : vc xs zH_142 (n + 1) b d 142 24 ml st t Q = vc xs zH_142 n true d 142 26 ml (.int 27 :: st) t Q := by
  rw [vc_q (o := (0, 27, 1, 0, [])) (by decide +kernel)]; rfl
theorem v_142_26 (xs : Option (List Int32)) (n : Nat) (b : Bool) (d : Nat) (ml : List Value) (t : T) (Q : Option Value → T → Prop) (u v : Int32) (r : List Value) : vc xs zH_142 (n + 1) b d 142 26 ml (.int v :: .int u :: r) t Q = vc xs zH_142 n true d 142 27 ml (.int (u * v) :: r) t Q := by
  rw [vc_q (o := (8, 0, 0, 0, [])) (by decide +kernel)]; rfl
theorem v_142_27 (xs : Option (List Int32)) (n : Nat) (b : Bool) (d : Nat) (ml : List Value) (t : T) (Q : Option Value → T → Prop) (st : List Value) : vc xs zH_142 (n + 1) b d 142 27 ml st t Q = vga ml 0 (fun v => vc xs zH_142 n true d 142 28 ml (.ref v :: st) t Q) := by
  rw [vc_q (o := (2, 0, 0, 0, [])) (by decide +kernel)]; rfl
theorem v_142_28 (xs : Option (List Int32)) (n : Nat) (b : Bool) (d : Nat) (ml : List Value) (t : T) (Q : Option Value → T → Prop) (u : Nat) (r : List Value) : vc xs zH_142 (n + 1) b d 142 28 ml (.ref u :: r) t Q = (vtag u = 9 ∧ vc xs zH_142 n true d 142 31 ml (.ref (tref t u 0) :: r) t Q) := by
  rw [vc_q (o := (25, 0, 9, 0, [])) (by decide +kernel)]; rfl
theorem v_142_31 (xs : Option (List Int32)) (n : Nat) (b : Bool) (d : Nat) (ml : List Value) (t : T) (Q : Option Value → T → Prop) (st : List Value) : vc xs zH_142 (n + 1) b d 142 31 ml st t Q = vc xs zH_142 n true d 142 32 ml (.int 3 :: st) t Q := by
  rw [vc_q (o := (0, 3, 0, 0, [])) (by decide +kernel)]; rfl
theorem v_142_32 (xs : Option (List Int32)) (n : Nat) (b : Bool) (d : Nat) (ml : List Value) (t : T) (Q : Option Value → T → Prop) (st : List Value) : vc xs zH_142 (n + 1) b d 142 32 ml st t Q = vgi ml 3 (fun v => vc xs zH_142 n true d 142 33 ml (.int v :: st) t Q) := by
  rw [vc_q (o := (1, 0, 3, 0, [])) (by decide +kernel)]; rfl
theorem v_142_33 (xs : Option (List Int32)) (n : Nat) (b : Bool) (d : Nat) (ml : List Value) (t : T) (Q : Option Value → T → Prop) (st : List Value) : vc xs zH_142 (n + 1) b d 142 33 ml st t Q = vc xs zH_142 n true d 142 34 ml (.int 0 :: st) t Q := by
  rw [vc_q (o := (0, 0, 0, 0, [])) (by decide +kernel)]; rfl
theorem v_142_34 (xs : Option (List Int32)) (n : Nat) (b : Bool) (d : Nat) (ml : List Value) (t : T) (Q : Option Value → T → Prop) (st : List Value) : vc xs zH_142 (n + 1) b d 142 34 ml st t Q = (st.all zc1 = true ∧ vtk 4 st [] (fun as rest => rest.length ≤ 8 ∧ vrc as 4 (twc d 162 as t (fun r t' => vc xs zH_142 n true d 142 37 ml (r.toList ++ rest) t' Q)))) := by
  rw [vc_q (o := (36, 0, 162, 3, [(0, 4)])) (by decide +kernel)]; rfl
theorem v_142_37 (xs : Option (List Int32)) (n : Nat) (b : Bool) (d : Nat) (ml : List Value) (t : T) (Q : Option Value → T → Prop) (st : List Value) : vc xs zH_142 (n + 1) b d 142 37 ml st t Q = vc xs zH_142 n true d 142 39 ml (.int 9 :: st) t Q := by
  rw [vc_q (o := (0, 9, 1, 0, [])) (by decide +kernel)]; rfl
theorem v_142_39 (xs : Option (List Int32)) (n : Nat) (b : Bool) (d : Nat) (ml : List Value) (t : T) (Q : Option Value → T → Prop) (u v : Int32) (r : List Value) : vc xs zH_142 (n + 1) b d 142 39 ml (.int v :: .int u :: r) t Q = vc xs zH_142 n true d 142 40 ml (.int (u * v) :: r) t Q := by
  rw [vc_q (o := (8, 0, 0, 0, [])) (by decide +kernel)]; rfl
theorem v_142_40 (xs : Option (List Int32)) (n : Nat) (b : Bool) (d : Nat) (ml : List Value) (t : T) (Q : Option Value → T → Prop) (u v : Int32) (r : List Value) : vc xs zH_142 (n + 1) b d 142 40 ml (.int v :: .int u :: r) t Q = vc xs zH_142 n true d 142 41 ml (.int (u + v) :: r) t Q := by
  rw [vc_q (o := (6, 0, 0, 0, [])) (by decide +kernel)]; rfl
theorem v_142_41 (xs : Option (List Int32)) (n : Nat) (b : Bool) (d : Nat) (ml : List Value) (t : T) (Q : Option Value → T → Prop) (st : List Value) : vc xs zH_142 (n + 1) b d 142 41 ml st t Q = vga ml 0 (fun v => vc xs zH_142 n true d 142 42 ml (.ref v :: st) t Q) := by
  rw [vc_q (o := (2, 0, 0, 0, [])) (by decide +kernel)]; rfl
theorem v_142_42 (xs : Option (List Int32)) (n : Nat) (b : Bool) (d : Nat) (ml : List Value) (t : T) (Q : Option Value → T → Prop) (u : Nat) (r : List Value) : vc xs zH_142 (n + 1) b d 142 42 ml (.ref u :: r) t Q = (vtag u = 9 ∧ vc xs zH_142 n true d 142 45 ml (.ref (tref t u 0) :: r) t Q) := by
  rw [vc_q (o := (25, 0, 9, 0, [])) (by decide +kernel)]; rfl
theorem v_142_45 (xs : Option (List Int32)) (n : Nat) (b : Bool) (d : Nat) (ml : List Value) (t : T) (Q : Option Value → T → Prop) (st : List Value) : vc xs zH_142 (n + 1) b d 142 45 ml st t Q = vc xs zH_142 n true d 142 46 ml (.int 4 :: st) t Q := by
  rw [vc_q (o := (0, 4, 0, 0, [])) (by decide +kernel)]; rfl
theorem v_142_46 (xs : Option (List Int32)) (n : Nat) (b : Bool) (d : Nat) (ml : List Value) (t : T) (Q : Option Value → T → Prop) (st : List Value) : vc xs zH_142 (n + 1) b d 142 46 ml st t Q = vgi ml 3 (fun v => vc xs zH_142 n true d 142 47 ml (.int v :: st) t Q) := by
  rw [vc_q (o := (1, 0, 3, 0, [])) (by decide +kernel)]; rfl
theorem v_142_47 (xs : Option (List Int32)) (n : Nat) (b : Bool) (d : Nat) (ml : List Value) (t : T) (Q : Option Value → T → Prop) (st : List Value) : vc xs zH_142 (n + 1) b d 142 47 ml st t Q = vc xs zH_142 n true d 142 48 ml (.int 0 :: st) t Q := by
  rw [vc_q (o := (0, 0, 0, 0, [])) (by decide +kernel)]; rfl
theorem v_142_48 (xs : Option (List Int32)) (n : Nat) (b : Bool) (d : Nat) (ml : List Value) (t : T) (Q : Option Value → T → Prop) (st : List Value) : vc xs zH_142 (n + 1) b d 142 48 ml st t Q = (st.all zc1 = true ∧ vtk 4 st [] (fun as rest => rest.length ≤ 8 ∧ vrc as 4 (twc d 162 as t (fun r t' => vc xs zH_142 n true d 142 51 ml (r.toList ++ rest) t' Q)))) := by
  rw [vc_q (o := (36, 0, 162, 3, [(0, 4)])) (by decide +kernel)]; rfl
theorem v_142_51 (xs : Option (List Int32)) (n : Nat) (b : Bool) (d : Nat) (ml : List Value) (t : T) (Q : Option Value → T → Prop) (st : List Value) : vc xs zH_142 (n + 1) b d 142 51 ml st t Q = vc xs zH_142 n true d 142 52 ml (.int 3 :: st) t Q := by
  rw [vc_q (o := (0, 3, 0, 0, [])) (by decide +kernel)]; rfl
theorem v_142_52 (xs : Option (List Int32)) (n : Nat) (b : Bool) (d : Nat) (ml : List Value) (t : T) (Q : Option Value → T → Prop) (u v : Int32) (r : List Value) : vc xs zH_142 (n + 1) b d 142 52 ml (.int v :: .int u :: r) t Q = vc xs zH_142 n true d 142 53 ml (.int (u * v) :: r) t Q := by
  rw [vc_q (o := (8, 0, 0, 0, [])) (by decide +kernel)]; rfl
theorem v_142_53 (xs : Option (List Int32)) (n : Nat) (b : Bool) (d : Nat) (ml : List Value) (t : T) (Q : Option Value → T → Prop) (u v : Int32) (r : List Value) : vc xs zH_142 (n + 1) b d 142 53 ml (.int v :: .int u :: r) t Q = vc xs zH_142 n true d 142 54 ml (.int (u + v) :: r) t Q := by
  rw [vc_q (o := (6, 0, 0, 0, [])) (by decide +kernel)]; rfl
theorem v_142_54 (xs : Option (List Int32)) (n : Nat) (b : Bool) (d : Nat) (ml : List Value) (t : T) (Q : Option Value → T → Prop) (st : List Value) : vc xs zH_142 (n + 1) b d 142 54 ml st t Q = vga ml 0 (fun v => vc xs zH_142 n true d 142 55 ml (.ref v :: st) t Q) := by
  rw [vc_q (o := (2, 0, 0, 0, [])) (by decide +kernel)]; rfl
theorem v_142_55 (xs : Option (List Int32)) (n : Nat) (b : Bool) (d : Nat) (ml : List Value) (t : T) (Q : Option Value → T → Prop) (u : Nat) (r : List Value) : vc xs zH_142 (n + 1) b d 142 55 ml (.ref u :: r) t Q = (vtag u = 9 ∧ vc xs zH_142 n true d 142 58 ml (.ref (tref t u 0) :: r) t Q) := by
  rw [vc_q (o := (25, 0, 9, 0, [])) (by decide +kernel)]; rfl
theorem v_142_58 (xs : Option (List Int32)) (n : Nat) (b : Bool) (d : Nat) (ml : List Value) (t : T) (Q : Option Value → T → Prop) (st : List Value) : vc xs zH_142 (n + 1) b d 142 58 ml st t Q = vc xs zH_142 n true d 142 59 ml (.int 5 :: st) t Q := by
  rw [vc_q (o := (0, 5, 0, 0, [])) (by decide +kernel)]; rfl
theorem v_142_59 (xs : Option (List Int32)) (n : Nat) (b : Bool) (d : Nat) (ml : List Value) (t : T) (Q : Option Value → T → Prop) (st : List Value) : vc xs zH_142 (n + 1) b d 142 59 ml st t Q = vgi ml 3 (fun v => vc xs zH_142 n true d 142 60 ml (.int v :: st) t Q) := by
  rw [vc_q (o := (1, 0, 3, 0, [])) (by decide +kernel)]; rfl
theorem v_142_60 (xs : Option (List Int32)) (n : Nat) (b : Bool) (d : Nat) (ml : List Value) (t : T) (Q : Option Value → T → Prop) (st : List Value) : vc xs zH_142 (n + 1) b d 142 60 ml st t Q = vc xs zH_142 n true d 142 61 ml (.int 0 :: st) t Q := by
  rw [vc_q (o := (0, 0, 0, 0, [])) (by decide +kernel)]; rfl
theorem v_142_61 (xs : Option (List Int32)) (n : Nat) (b : Bool) (d : Nat) (ml : List Value) (t : T) (Q : Option Value → T → Prop) (st : List Value) : vc xs zH_142 (n + 1) b d 142 61 ml st t Q = (st.all zc1 = true ∧ vtk 4 st [] (fun as rest => rest.length ≤ 8 ∧ vrc as 4 (twc d 162 as t (fun r t' => vc xs zH_142 n true d 142 64 ml (r.toList ++ rest) t' Q)))) := by
  rw [vc_q (o := (36, 0, 162, 3, [(0, 4)])) (by decide +kernel)]; rfl
theorem v_142_64 (xs : Option (List Int32)) (n : Nat) (b : Bool) (d : Nat) (ml : List Value) (t : T) (Q : Option Value → T → Prop) (u v : Int32) (r : List Value) : vc xs zH_142 (n + 1) b d 142 64 ml (.int v :: .int u :: r) t Q = vc xs zH_142 n true d 142 65 ml (.int (u + v) :: r) t Q := by
  rw [vc_q (o := (6, 0, 0, 0, [])) (by decide +kernel)]; rfl
theorem v_142_65 (xs : Option (List Int32)) (n : Nat) (b : Bool) (d : Nat) (ml : List Value) (t : T) (Q : Option Value → T → Prop) (w v : Int32) (u : Nat) (r : List Value) : vc xs zH_142 (n + 1) b d 142 65 ml (.int w :: .int v :: .ref u :: r) t Q = (vtag u = 100 ∧ vinb v (vlen u) ∧ vc xs zH_142 n true d 142 66 ml r (tsi t u v.toNatClampNeg w) Q) := by
  rw [vc_q (o := (32, 0, 0, 0, [])) (by decide +kernel)]; rfl
theorem v_142_66 (xs : Option (List Int32)) (n : Nat) (b : Bool) (d : Nat) (ml : List Value) (t : T) (Q : Option Value → T → Prop) (st : List Value) : vc xs zH_142 (n + 1) b d 142 66 ml st t Q = vga ml 0 (fun v => vc xs zH_142 n true d 142 67 ml (.ref v :: st) t Q) := by
  rw [vc_q (o := (2, 0, 0, 0, [])) (by decide +kernel)]; rfl
theorem v_142_67 (xs : Option (List Int32)) (n : Nat) (b : Bool) (d : Nat) (ml : List Value) (t : T) (Q : Option Value → T → Prop) (u : Nat) (r : List Value) : vc xs zH_142 (n + 1) b d 142 67 ml (.ref u :: r) t Q = (vtag u = 9 ∧ vc xs zH_142 n true d 142 70 ml (.ref (tref t u 2) :: r) t Q) := by
  rw [vc_q (o := (25, 0, 9, 2, [])) (by decide +kernel)]; rfl
theorem v_142_70 (xs : Option (List Int32)) (n : Nat) (b : Bool) (d : Nat) (ml : List Value) (t : T) (Q : Option Value → T → Prop) (st : List Value) : vc xs zH_142 (n + 1) b d 142 70 ml st t Q = vgi ml 3 (fun v => vc xs zH_142 n true d 142 71 ml (.int v :: st) t Q) := by
  rw [vc_q (o := (1, 0, 3, 0, [])) (by decide +kernel)]; rfl
theorem v_142_71 (xs : Option (List Int32)) (n : Nat) (b : Bool) (d : Nat) (ml : List Value) (t : T) (Q : Option Value → T → Prop) (st : List Value) : vc xs zH_142 (n + 1) b d 142 71 ml st t Q = vga ml 0 (fun v => vc xs zH_142 n true d 142 72 ml (.ref v :: st) t Q) := by
  rw [vc_q (o := (2, 0, 0, 0, [])) (by decide +kernel)]; rfl
theorem v_142_72 (xs : Option (List Int32)) (n : Nat) (b : Bool) (d : Nat) (ml : List Value) (t : T) (Q : Option Value → T → Prop) (st : List Value) : vc xs zH_142 (n + 1) b d 142 72 ml st t Q = vgi ml 3 (fun v => vc xs zH_142 n true d 142 73 ml (.int v :: st) t Q) := by
  rw [vc_q (o := (1, 0, 3, 0, [])) (by decide +kernel)]; rfl
theorem v_142_73 (xs : Option (List Int32)) (n : Nat) (b : Bool) (d : Nat) (ml : List Value) (t : T) (Q : Option Value → T → Prop) (st : List Value) : vc xs zH_142 (n + 1) b d 142 73 ml st t Q = (st.all zc1 = true ∧ vtk 2 st [] (fun as rest => rest.length ≤ 8 ∧ vrc as 9 (twc d 143 as t (fun r t' => vc xs zH_142 n true d 142 76 ml (r.toList ++ rest) t' Q)))) := by
  rw [vc_q (o := (36, 0, 143, 1, [(0, 9)])) (by decide +kernel)]; rfl
theorem v_142_76 (xs : Option (List Int32)) (n : Nat) (b : Bool) (d : Nat) (ml : List Value) (t : T) (Q : Option Value → T → Prop) (w v : Int32) (u : Nat) (r : List Value) : vc xs zH_142 (n + 1) b d 142 76 ml (.int w :: .int v :: .ref u :: r) t Q = (vinb v (vlen u) ∧ if vtag u = 101 then vc xs zH_142 n true d 142 77 ml r (tsi t u v.toNatClampNeg w.toInt8.toInt32) Q else (vtag u = 102 ∧ (w = 0 ∨ w = 1) ∧ vc xs zH_142 n true d 142 77 ml r (tsi t u v.toNatClampNeg w) Q)) := by
  rw [vc_q (o := (33, 0, 0, 0, [])) (by decide +kernel)]; rfl
theorem v_142_77 (xs : Option (List Int32)) (n : Nat) (b : Bool) (d : Nat) (ml : List Value) (t : T) (Q : Option Value → T → Prop) (st : List Value) : vc xs zH_142 (n + 1) b d 142 77 ml st t Q = vgi ml 2 (fun v => vc xs zH_142 n true d 142 78 ml (.int v :: st) t Q) := by
  rw [vc_q (o := (1, 0, 2, 0, [])) (by decide +kernel)]; rfl
theorem v_142_78 (xs : Option (List Int32)) (n : Nat) (b : Bool) (d : Nat) (ml : List Value) (t : T) (Q : Option Value → T → Prop) (st : List Value) : vc xs zH_142 (n + 1) b d 142 78 ml st t Q = vga ml 0 (fun v => vc xs zH_142 n true d 142 79 ml (.ref v :: st) t Q) := by
  rw [vc_q (o := (2, 0, 0, 0, [])) (by decide +kernel)]; rfl
theorem v_142_79 (xs : Option (List Int32)) (n : Nat) (b : Bool) (d : Nat) (ml : List Value) (t : T) (Q : Option Value → T → Prop) (u : Nat) (r : List Value) : vc xs zH_142 (n + 1) b d 142 79 ml (.ref u :: r) t Q = (vtag u = 9 ∧ vc xs zH_142 n true d 142 82 ml (.ref (tref t u 2) :: r) t Q) := by
  rw [vc_q (o := (25, 0, 9, 2, [])) (by decide +kernel)]; rfl
theorem v_142_82 (xs : Option (List Int32)) (n : Nat) (b : Bool) (d : Nat) (ml : List Value) (t : T) (Q : Option Value → T → Prop) (st : List Value) : vc xs zH_142 (n + 1) b d 142 82 ml st t Q = vgi ml 3 (fun v => vc xs zH_142 n true d 142 83 ml (.int v :: st) t Q) := by
  rw [vc_q (o := (1, 0, 3, 0, [])) (by decide +kernel)]; rfl
theorem v_142_83 (xs : Option (List Int32)) (n : Nat) (b : Bool) (d : Nat) (ml : List Value) (t : T) (Q : Option Value → T → Prop) (v : Int32) (u : Nat) (r : List Value) : vc xs zH_142 (n + 1) b d 142 83 ml (.int v :: .ref u :: r) t Q = ((vtag u = 101 ∨ vtag u = 102) ∧ vinb v (vlen u) ∧ vc xs zH_142 n true d 142 84 ml (.int (t.1 u v.toNatClampNeg) :: r) t Q) := by
  rw [vc_q (o := (30, 0, 0, 0, [])) (by decide +kernel)]; rfl
theorem v_142_84 (xs : Option (List Int32)) (n : Nat) (b : Bool) (d : Nat) (ml : List Value) (t : T) (Q : Option Value → T → Prop) (u : Int32) (r : List Value) : vc xs zH_142 (n + 1) b d 142 84 ml (.int u :: r) t Q = (if u = 0 then vc xs zH_142 n true d 142 91 ml r t Q else vc xs zH_142 n true d 142 87 ml r t Q) := by
  rw [vc_q (o := (21, 0, 91, 0, [])) (by decide +kernel)]; rfl
theorem v_142_87 (xs : Option (List Int32)) (n : Nat) (b : Bool) (d : Nat) (ml : List Value) (t : T) (Q : Option Value → T → Prop) (st : List Value) : vc xs zH_142 (n + 1) b d 142 87 ml st t Q = vc xs zH_142 n true d 142 88 ml (.int 1 :: st) t Q := by
  rw [vc_q (o := (0, 1, 0, 0, [])) (by decide +kernel)]; rfl
theorem v_142_88 (xs : Option (List Int32)) (n : Nat) (b : Bool) (d : Nat) (ml : List Value) (t : T) (Q : Option Value → T → Prop) (st : List Value) : vc xs zH_142 (n + 1) b d 142 88 ml st t Q = vc xs zH_142 n true d 142 92 ml st t Q := by
  rw [vc_q (o := (22, 0, 92, 0, [])) (by decide +kernel)]; rfl
theorem v_142_91 (xs : Option (List Int32)) (n : Nat) (b : Bool) (d : Nat) (ml : List Value) (t : T) (Q : Option Value → T → Prop) (st : List Value) : vc xs zH_142 (n + 1) b d 142 91 ml st t Q = vc xs zH_142 n true d 142 92 ml (.int 0 :: st) t Q := by
  rw [vc_q (o := (0, 0, 0, 0, [])) (by decide +kernel)]; rfl
theorem v_142_92 (xs : Option (List Int32)) (n : Nat) (b : Bool) (d : Nat) (ml : List Value) (t : T) (Q : Option Value → T → Prop) (u v : Int32) (r : List Value) : vc xs zH_142 (n + 1) b d 142 92 ml (.int v :: .int u :: r) t Q = vc xs zH_142 n true d 142 93 ml (.int (u + v) :: r) t Q := by
  rw [vc_q (o := (6, 0, 0, 0, [])) (by decide +kernel)]; rfl
theorem v_142_93 (xs : Option (List Int32)) (n : Nat) (b : Bool) (d : Nat) (ml : List Value) (t : T) (Q : Option Value → T → Prop) (v : Int32) (r : List Value) : vc xs zH_142 (n + 1) b d 142 93 ml (.int v :: r) t Q = vset ml 2 (.int v) (fun l => vc xs zH_142 n true d 142 94 l r t Q) := by
  rw [vc_q (o := (3, 0, 2, 0, [])) (by decide +kernel)]; rfl
theorem v_142_94 (xs : Option (List Int32)) (n : Nat) (b : Bool) (d : Nat) (ml : List Value) (t : T) (Q : Option Value → T → Prop) (st : List Value) : vc xs zH_142 (n + 1) b d 142 94 ml st t Q = vgi ml 3 (fun v => vset ml 3 (.int (v + 1)) (fun l => vc xs zH_142 n true d 142 97 l st t Q)) := by
  rw [vc_q (o := (5, 1, 3, 0, [])) (by decide +kernel)]; rfl
theorem v_142_97 (xs : Option (List Int32)) (n : Nat) (b : Bool) (d : Nat) (ml : List Value) (t : T) (Q : Option Value → T → Prop) (st : List Value) : vc xs zH_142 (n + 1) b d 142 97 ml st t Q = vc xs zH_142 n true d 142 4 ml st t Q := by
  rw [vc_q (o := (22, 0, 4, 0, [])) (by decide +kernel)]; rfl
theorem v_142_100 (xs : Option (List Int32)) (n : Nat) (b : Bool) (d : Nat) (ml : List Value) (t : T) (Q : Option Value → T → Prop) (st : List Value) : vc xs zH_142 (n + 1) b d 142 100 ml st t Q = vc xs zH_142 n true d 142 101 ml (.int 0 :: st) t Q := by
  rw [vc_q (o := (0, 0, 0, 0, [])) (by decide +kernel)]; rfl
theorem v_142_101 (xs : Option (List Int32)) (n : Nat) (b : Bool) (d : Nat) (ml : List Value) (t : T) (Q : Option Value → T → Prop) (v : Int32) (r : List Value) : vc xs zH_142 (n + 1) b d 142 101 ml (.int v :: r) t Q = vset ml 3 (.int v) (fun l => vc xs zH_142 n true d 142 102 l r t Q) := by
  rw [vc_q (o := (3, 0, 3, 0, [])) (by decide +kernel)]; rfl
theorem v_142_102 (xs : Option (List Int32)) (n : Nat) (d : Nat) (ml : List Value) (t : T) (Q : Option Value → T → Prop) (st : List Value) : vc xs zH_142 (n + 1) false d 142 102 ml st t Q = vgi ml 3 (fun v => vc xs zH_142 n true d 142 103 ml (.int v :: st) t Q) := by
  rw [vc_q (o := (1, 0, 3, 0, [])) (by decide +kernel)]; rfl
theorem h_142_102 (xs : Option (List Int32)) (n d : Nat) (ml st : List Value) (t : T) (Q : Option Value → T → Prop) : vc xs zH_142 (n + 1) true d 142 102 ml st t Q = twp xs d 142 102 ml st t Q := id rfl
theorem v_142_103 (xs : Option (List Int32)) (n : Nat) (b : Bool) (d : Nat) (ml : List Value) (t : T) (Q : Option Value → T → Prop) (st : List Value) : vc xs zH_142 (n + 1) b d 142 103 ml st t Q = vgi ml 1 (fun v => vc xs zH_142 n true d 142 104 ml (.int v :: st) t Q) := by
  rw [vc_q (o := (1, 0, 1, 0, [])) (by decide +kernel)]; rfl
theorem v_142_104 (xs : Option (List Int32)) (n : Nat) (b : Bool) (d : Nat) (ml : List Value) (t : T) (Q : Option Value → T → Prop) (u v : Int32) (r : List Value) : vc xs zH_142 (n + 1) b d 142 104 ml (.int v :: .int u :: r) t Q = (if u < v then vc xs zH_142 n true d 142 107 ml r t Q else vc xs zH_142 n true d 142 175 ml r t Q) := by
  rw [vc_q (o := (20, 0, 175, 3, [])) (by decide +kernel)]; rfl
theorem v_142_107 (xs : Option (List Int32)) (n : Nat) (b : Bool) (d : Nat) (ml : List Value) (t : T) (Q : Option Value → T → Prop) (st : List Value) : vc xs zH_142 (n + 1) b d 142 107 ml st t Q = vga ml 0 (fun v => vc xs zH_142 n true d 142 108 ml (.ref v :: st) t Q) := by
  rw [vc_q (o := (2, 0, 0, 0, [])) (by decide +kernel)]; rfl
theorem v_142_108 (xs : Option (List Int32)) (n : Nat) (b : Bool) (d : Nat) (ml : List Value) (t : T) (Q : Option Value → T → Prop) (u : Nat) (r : List Value) : vc xs zH_142 (n + 1) b d 142 108 ml (.ref u :: r) t Q = (vtag u = 9 ∧ vc xs zH_142 n true d 142 111 ml (.ref (tref t u 3) :: r) t Q) := by
  rw [vc_q (o := (25, 0, 9, 3, [])) (by decide +kernel)]; rfl
theorem v_142_111 (xs : Option (List Int32)) (n : Nat) (b : Bool) (d : Nat) (ml : List Value) (t : T) (Q : Option Value → T → Prop) (st : List Value) : vc xs zH_142 (n + 1) b d 142 111 ml st t Q = vgi ml 3 (fun v => vc xs zH_142 n true d 142 112 ml (.int v :: st) t Q) := by
  rw [vc_q (o := (1, 0, 3, 0, [])) (by decide +kernel)]; rfl
theorem v_142_112 (xs : Option (List Int32)) (n : Nat) (b : Bool) (d : Nat) (ml : List Value) (t : T) (Q : Option Value → T → Prop) (st : List Value) : vc xs zH_142 (n + 1) b d 142 112 ml st t Q = vc xs zH_142 n true d 142 113 ml (.int 0 :: st) t Q := by
  rw [vc_q (o := (0, 0, 0, 0, [])) (by decide +kernel)]; rfl
theorem v_142_113 (xs : Option (List Int32)) (n : Nat) (b : Bool) (d : Nat) (ml : List Value) (t : T) (Q : Option Value → T → Prop) (w v : Int32) (u : Nat) (r : List Value) : vc xs zH_142 (n + 1) b d 142 113 ml (.int w :: .int v :: .ref u :: r) t Q = (vtag u = 100 ∧ vinb v (vlen u) ∧ vc xs zH_142 n true d 142 114 ml r (tsi t u v.toNatClampNeg w) Q) := by
  rw [vc_q (o := (32, 0, 0, 0, [])) (by decide +kernel)]; rfl
theorem v_142_114 (xs : Option (List Int32)) (n : Nat) (b : Bool) (d : Nat) (ml : List Value) (t : T) (Q : Option Value → T → Prop) (st : List Value) : vc xs zH_142 (n + 1) b d 142 114 ml st t Q = vc xs zH_142 n true d 142 115 ml (.int 0 :: st) t Q := by
  rw [vc_q (o := (0, 0, 0, 0, [])) (by decide +kernel)]; rfl
theorem v_142_115 (xs : Option (List Int32)) (n : Nat) (b : Bool) (d : Nat) (ml : List Value) (t : T) (Q : Option Value → T → Prop) (v : Int32) (r : List Value) : vc xs zH_142 (n + 1) b d 142 115 ml (.int v :: r) t Q = vset ml 4 (.int v) (fun l => vc xs zH_142 n true d 142 117 l r t Q) := by
  rw [vc_q (o := (3, 0, 4, 1, [])) (by decide +kernel)]; rfl
theorem v_142_117 (xs : Option (List Int32)) (n : Nat) (d : Nat) (ml : List Value) (t : T) (Q : Option Value → T → Prop) (st : List Value) : vc xs zH_142 (n + 1) false d 142 117 ml st t Q = vgi ml 4 (fun v => vc xs zH_142 n true d 142 119 ml (.int v :: st) t Q) := by
  rw [vc_q (o := (1, 0, 4, 1, [])) (by decide +kernel)]; rfl
theorem h_142_117 (xs : Option (List Int32)) (n d : Nat) (ml st : List Value) (t : T) (Q : Option Value → T → Prop) : vc xs zH_142 (n + 1) true d 142 117 ml st t Q = twp xs d 142 117 ml st t Q := id rfl
theorem v_142_119 (xs : Option (List Int32)) (n : Nat) (b : Bool) (d : Nat) (ml : List Value) (t : T) (Q : Option Value → T → Prop) (st : List Value) : vc xs zH_142 (n + 1) b d 142 119 ml st t Q = vgi ml 1 (fun v => vc xs zH_142 n true d 142 120 ml (.int v :: st) t Q) := by
  rw [vc_q (o := (1, 0, 1, 0, [])) (by decide +kernel)]; rfl
theorem v_142_120 (xs : Option (List Int32)) (n : Nat) (b : Bool) (d : Nat) (ml : List Value) (t : T) (Q : Option Value → T → Prop) (u v : Int32) (r : List Value) : vc xs zH_142 (n + 1) b d 142 120 ml (.int v :: .int u :: r) t Q = (if u < v then vc xs zH_142 n true d 142 123 ml r t Q else vc xs zH_142 n true d 142 169 ml r t Q) := by
  rw [vc_q (o := (20, 0, 169, 3, [])) (by decide +kernel)]; rfl
theorem v_142_123 (xs : Option (List Int32)) (n : Nat) (b : Bool) (d : Nat) (ml : List Value) (t : T) (Q : Option Value → T → Prop) (st : List Value) : vc xs zH_142 (n + 1) b d 142 123 ml st t Q = vga ml 0 (fun v => vc xs zH_142 n true d 142 124 ml (.ref v :: st) t Q) := by
  rw [vc_q (o := (2, 0, 0, 0, [])) (by decide +kernel)]; rfl
theorem v_142_124 (xs : Option (List Int32)) (n : Nat) (b : Bool) (d : Nat) (ml : List Value) (t : T) (Q : Option Value → T → Prop) (u : Nat) (r : List Value) : vc xs zH_142 (n + 1) b d 142 124 ml (.ref u :: r) t Q = (vtag u = 9 ∧ vc xs zH_142 n true d 142 127 ml (.ref (tref t u 3) :: r) t Q) := by
  rw [vc_q (o := (25, 0, 9, 3, [])) (by decide +kernel)]; rfl
theorem v_142_127 (xs : Option (List Int32)) (n : Nat) (b : Bool) (d : Nat) (ml : List Value) (t : T) (Q : Option Value → T → Prop) (st : List Value) : vc xs zH_142 (n + 1) b d 142 127 ml st t Q = vgi ml 3 (fun v => vc xs zH_142 n true d 142 128 ml (.int v :: st) t Q) := by
  rw [vc_q (o := (1, 0, 3, 0, [])) (by decide +kernel)]; rfl
theorem v_142_128 (xs : Option (List Int32)) (n : Nat) (b : Bool) (d : Nat) (ml : List Value) (t : T) (Q : Option Value → T → Prop) (v : Int32) (u : Nat) (r : List Value) : vc xs zH_142 (n + 1) b d 142 128 ml (.int v :: .ref u :: r) t Q = vc xs zH_142 n true d 142 129 ml (.int v :: .ref u :: .int v :: .ref u :: r) t Q := by
  rw [vc_q (o := (18, 0, 0, 0, [])) (by decide +kernel)]; rfl
theorem v_142_129 (xs : Option (List Int32)) (n : Nat) (b : Bool) (d : Nat) (ml : List Value) (t : T) (Q : Option Value → T → Prop) (v : Int32) (u : Nat) (r : List Value) : vc xs zH_142 (n + 1) b d 142 129 ml (.int v :: .ref u :: r) t Q = (vtag u = 100 ∧ vinb v (vlen u) ∧ vc xs zH_142 n true d 142 130 ml (.int (t.1 u v.toNatClampNeg) :: r) t Q) := by
  rw [vc_q (o := (29, 0, 0, 0, [])) (by decide +kernel)]; rfl
theorem v_142_130 (xs : Option (List Int32)) (n : Nat) (b : Bool) (d : Nat) (ml : List Value) (t : T) (Q : Option Value → T → Prop) (st : List Value) : vc xs zH_142 (n + 1) b d 142 130 ml st t Q = vga ml 0 (fun v => vc xs zH_142 n true d 142 131 ml (.ref v :: st) t Q) := by
  rw [vc_q (o := (2, 0, 0, 0, [])) (by decide +kernel)]; rfl
theorem v_142_131 (xs : Option (List Int32)) (n : Nat) (b : Bool) (d : Nat) (ml : List Value) (t : T) (Q : Option Value → T → Prop) (u : Nat) (r : List Value) : vc xs zH_142 (n + 1) b d 142 131 ml (.ref u :: r) t Q = (vtag u = 9 ∧ vc xs zH_142 n true d 142 134 ml (.ref (tref t u 2) :: r) t Q) := by
  rw [vc_q (o := (25, 0, 9, 2, [])) (by decide +kernel)]; rfl
theorem v_142_134 (xs : Option (List Int32)) (n : Nat) (b : Bool) (d : Nat) (ml : List Value) (t : T) (Q : Option Value → T → Prop) (st : List Value) : vc xs zH_142 (n + 1) b d 142 134 ml st t Q = vgi ml 4 (fun v => vc xs zH_142 n true d 142 136 ml (.int v :: st) t Q) := by
  rw [vc_q (o := (1, 0, 4, 1, [])) (by decide +kernel)]; rfl
theorem v_142_136 (xs : Option (List Int32)) (n : Nat) (b : Bool) (d : Nat) (ml : List Value) (t : T) (Q : Option Value → T → Prop) (v : Int32) (u : Nat) (r : List Value) : vc xs zH_142 (n + 1) b d 142 136 ml (.int v :: .ref u :: r) t Q = ((vtag u = 101 ∨ vtag u = 102) ∧ vinb v (vlen u) ∧ vc xs zH_142 n true d 142 137 ml (.int (t.1 u v.toNatClampNeg) :: r) t Q) := by
  rw [vc_q (o := (30, 0, 0, 0, [])) (by decide +kernel)]; rfl
theorem v_142_137 (xs : Option (List Int32)) (n : Nat) (b : Bool) (d : Nat) (ml : List Value) (t : T) (Q : Option Value → T → Prop) (u : Int32) (r : List Value) : vc xs zH_142 (n + 1) b d 142 137 ml (.int u :: r) t Q = (if u = 0 then vc xs zH_142 n true d 142 160 ml r t Q else vc xs zH_142 n true d 142 140 ml r t Q) := by
  rw [vc_q (o := (21, 0, 160, 0, [])) (by decide +kernel)]; rfl
theorem v_142_140 (xs : Option (List Int32)) (n : Nat) (b : Bool) (d : Nat) (ml : List Value) (t : T) (Q : Option Value → T → Prop) (st : List Value) : vc xs zH_142 (n + 1) b d 142 140 ml st t Q = vga ml 0 (fun v => vc xs zH_142 n true d 142 141 ml (.ref v :: st) t Q) := by
  rw [vc_q (o := (2, 0, 0, 0, [])) (by decide +kernel)]; rfl
theorem v_142_141 (xs : Option (List Int32)) (n : Nat) (b : Bool) (d : Nat) (ml : List Value) (t : T) (Q : Option Value → T → Prop) (u : Nat) (r : List Value) : vc xs zH_142 (n + 1) b d 142 141 ml (.ref u :: r) t Q = (vtag u = 9 ∧ vc xs zH_142 n true d 142 144 ml (.ref (tref t u 1) :: r) t Q) := by
  rw [vc_q (o := (25, 0, 9, 1, [])) (by decide +kernel)]; rfl
theorem v_142_144 (xs : Option (List Int32)) (n : Nat) (b : Bool) (d : Nat) (ml : List Value) (t : T) (Q : Option Value → T → Prop) (st : List Value) : vc xs zH_142 (n + 1) b d 142 144 ml st t Q = vgi ml 4 (fun v => vc xs zH_142 n true d 142 146 ml (.int v :: st) t Q) := by
  rw [vc_q (o := (1, 0, 4, 1, [])) (by decide +kernel)]; rfl
theorem v_142_146 (xs : Option (List Int32)) (n : Nat) (b : Bool) (d : Nat) (ml : List Value) (t : T) (Q : Option Value → T → Prop) (v : Int32) (u : Nat) (r : List Value) : vc xs zH_142 (n + 1) b d 142 146 ml (.int v :: .ref u :: r) t Q = (vtag u = 100 ∧ vinb v (vlen u) ∧ vc xs zH_142 n true d 142 147 ml (.int (t.1 u v.toNatClampNeg) :: r) t Q) := by
  rw [vc_q (o := (29, 0, 0, 0, [])) (by decide +kernel)]; rfl
theorem v_142_147 (xs : Option (List Int32)) (n : Nat) (b : Bool) (d : Nat) (ml : List Value) (t : T) (Q : Option Value → T → Prop) (st : List Value) : vc xs zH_142 (n + 1) b d 142 147 ml st t Q = vga ml 0 (fun v => vc xs zH_142 n true d 142 148 ml (.ref v :: st) t Q) := by
  rw [vc_q (o := (2, 0, 0, 0, [])) (by decide +kernel)]; rfl
theorem v_142_148 (xs : Option (List Int32)) (n : Nat) (b : Bool) (d : Nat) (ml : List Value) (t : T) (Q : Option Value → T → Prop) (u : Nat) (r : List Value) : vc xs zH_142 (n + 1) b d 142 148 ml (.ref u :: r) t Q = (vtag u = 9 ∧ vc xs zH_142 n true d 142 151 ml (.ref (tref t u 1) :: r) t Q) := by
  rw [vc_q (o := (25, 0, 9, 1, [])) (by decide +kernel)]; rfl
theorem v_142_151 (xs : Option (List Int32)) (n : Nat) (b : Bool) (d : Nat) (ml : List Value) (t : T) (Q : Option Value → T → Prop) (st : List Value) : vc xs zH_142 (n + 1) b d 142 151 ml st t Q = vgi ml 3 (fun v => vc xs zH_142 n true d 142 152 ml (.int v :: st) t Q) := by
  rw [vc_q (o := (1, 0, 3, 0, [])) (by decide +kernel)]; rfl
theorem v_142_152 (xs : Option (List Int32)) (n : Nat) (b : Bool) (d : Nat) (ml : List Value) (t : T) (Q : Option Value → T → Prop) (v : Int32) (u : Nat) (r : List Value) : vc xs zH_142 (n + 1) b d 142 152 ml (.int v :: .ref u :: r) t Q = (vtag u = 100 ∧ vinb v (vlen u) ∧ vc xs zH_142 n true d 142 153 ml (.int (t.1 u v.toNatClampNeg) :: r) t Q) := by
  rw [vc_q (o := (29, 0, 0, 0, [])) (by decide +kernel)]; rfl
theorem v_142_153 (xs : Option (List Int32)) (n : Nat) (b : Bool) (d : Nat) (ml : List Value) (t : T) (Q : Option Value → T → Prop) (u v : Int32) (r : List Value) : vc xs zH_142 (n + 1) b d 142 153 ml (.int v :: .int u :: r) t Q = (if u < v then vc xs zH_142 n true d 142 156 ml r t Q else vc xs zH_142 n true d 142 160 ml r t Q) := by
  rw [vc_q (o := (20, 0, 160, 3, [])) (by decide +kernel)]; rfl
theorem v_142_156 (xs : Option (List Int32)) (n : Nat) (b : Bool) (d : Nat) (ml : List Value) (t : T) (Q : Option Value → T → Prop) (st : List Value) : vc xs zH_142 (n + 1) b d 142 156 ml st t Q = vc xs zH_142 n true d 142 157 ml (.int 1 :: st) t Q := by
  rw [vc_q (o := (0, 1, 0, 0, [])) (by decide +kernel)]; rfl
theorem v_142_157 (xs : Option (List Int32)) (n : Nat) (b : Bool) (d : Nat) (ml : List Value) (t : T) (Q : Option Value → T → Prop) (st : List Value) : vc xs zH_142 (n + 1) b d 142 157 ml st t Q = vc xs zH_142 n true d 142 161 ml st t Q := by
  rw [vc_q (o := (22, 0, 161, 0, [])) (by decide +kernel)]; rfl
theorem v_142_160 (xs : Option (List Int32)) (n : Nat) (b : Bool) (d : Nat) (ml : List Value) (t : T) (Q : Option Value → T → Prop) (st : List Value) : vc xs zH_142 (n + 1) b d 142 160 ml st t Q = vc xs zH_142 n true d 142 161 ml (.int 0 :: st) t Q := by
  rw [vc_q (o := (0, 0, 0, 0, [])) (by decide +kernel)]; rfl
theorem v_142_161 (xs : Option (List Int32)) (n : Nat) (b : Bool) (d : Nat) (ml : List Value) (t : T) (Q : Option Value → T → Prop) (u v : Int32) (r : List Value) : vc xs zH_142 (n + 1) b d 142 161 ml (.int v :: .int u :: r) t Q = vc xs zH_142 n true d 142 162 ml (.int (u + v) :: r) t Q := by
  rw [vc_q (o := (6, 0, 0, 0, [])) (by decide +kernel)]; rfl
theorem v_142_162 (xs : Option (List Int32)) (n : Nat) (b : Bool) (d : Nat) (ml : List Value) (t : T) (Q : Option Value → T → Prop) (w v : Int32) (u : Nat) (r : List Value) : vc xs zH_142 (n + 1) b d 142 162 ml (.int w :: .int v :: .ref u :: r) t Q = (vtag u = 100 ∧ vinb v (vlen u) ∧ vc xs zH_142 n true d 142 163 ml r (tsi t u v.toNatClampNeg w) Q) := by
  rw [vc_q (o := (32, 0, 0, 0, [])) (by decide +kernel)]; rfl
theorem v_142_163 (xs : Option (List Int32)) (n : Nat) (b : Bool) (d : Nat) (ml : List Value) (t : T) (Q : Option Value → T → Prop) (st : List Value) : vc xs zH_142 (n + 1) b d 142 163 ml st t Q = vgi ml 4 (fun v => vset ml 4 (.int (v + 1)) (fun l => vc xs zH_142 n true d 142 166 l st t Q)) := by
  rw [vc_q (o := (5, 1, 4, 0, [])) (by decide +kernel)]; rfl
theorem v_142_166 (xs : Option (List Int32)) (n : Nat) (b : Bool) (d : Nat) (ml : List Value) (t : T) (Q : Option Value → T → Prop) (st : List Value) : vc xs zH_142 (n + 1) b d 142 166 ml st t Q = vc xs zH_142 n true d 142 117 ml st t Q := by
  rw [vc_q (o := (22, 0, 117, 0, [])) (by decide +kernel)]; rfl
theorem v_142_169 (xs : Option (List Int32)) (n : Nat) (b : Bool) (d : Nat) (ml : List Value) (t : T) (Q : Option Value → T → Prop) (st : List Value) : vc xs zH_142 (n + 1) b d 142 169 ml st t Q = vgi ml 3 (fun v => vset ml 3 (.int (v + 1)) (fun l => vc xs zH_142 n true d 142 172 l st t Q)) := by
  rw [vc_q (o := (5, 1, 3, 0, [])) (by decide +kernel)]; rfl
theorem v_142_172 (xs : Option (List Int32)) (n : Nat) (b : Bool) (d : Nat) (ml : List Value) (t : T) (Q : Option Value → T → Prop) (st : List Value) : vc xs zH_142 (n + 1) b d 142 172 ml st t Q = vc xs zH_142 n true d 142 102 ml st t Q := by
  rw [vc_q (o := (22, 0, 102, 0, [])) (by decide +kernel)]; rfl
theorem v_142_175 (xs : Option (List Int32)) (n : Nat) (b : Bool) (d : Nat) (ml : List Value) (t : T) (Q : Option Value → T → Prop) (st : List Value) : vc xs zH_142 (n + 1) b d 142 175 ml st t Q = vgi ml 2 (fun v => vc xs zH_142 n true d 142 176 ml (.int v :: st) t Q) := by
  rw [vc_q (o := (1, 0, 2, 0, [])) (by decide +kernel)]; rfl
theorem v_142_176 (xs : Option (List Int32)) (n : Nat) (b : Bool) (d : Nat) (ml : List Value) (t : T) (Q : Option Value → T → Prop) (v : Int32) : vc xs zH_142 (n + 1) b d 142 176 ml [.int v] t Q = Q (some (.int v)) t := by
  rw [vc_q (o := (40, 0, 0, 0, [])) (by decide +kernel)]; rfl
def zH_143 : List Nat := [2]
theorem v_143_0 (xs : Option (List Int32)) (n : Nat) (b : Bool) (d : Nat) (ml : List Value) (t : T) (Q : Option Value → T → Prop) (st : List Value) : vc xs zH_143 (n + 1) b d 143 0 ml st t Q = vc xs zH_143 n true d 143 1 ml (.int 0 :: st) t Q := by
  rw [vc_q (o := (0, 0, 0, 0, [])) (by decide +kernel)]; rfl
theorem v_143_1 (xs : Option (List Int32)) (n : Nat) (b : Bool) (d : Nat) (ml : List Value) (t : T) (Q : Option Value → T → Prop) (v : Int32) (r : List Value) : vc xs zH_143 (n + 1) b d 143 1 ml (.int v :: r) t Q = vset ml 2 (.int v) (fun l => vc xs zH_143 n true d 143 2 l r t Q) := by
  rw [vc_q (o := (3, 0, 2, 0, [])) (by decide +kernel)]; rfl
theorem v_143_2 (xs : Option (List Int32)) (n : Nat) (d : Nat) (ml : List Value) (t : T) (Q : Option Value → T → Prop) (st : List Value) : vc xs zH_143 (n + 1) false d 143 2 ml st t Q = vgi ml 2 (fun v => vc xs zH_143 n true d 143 3 ml (.int v :: st) t Q) := by
  rw [vc_q (o := (1, 0, 2, 0, [])) (by decide +kernel)]; rfl
theorem h_143_2 (xs : Option (List Int32)) (n d : Nat) (ml st : List Value) (t : T) (Q : Option Value → T → Prop) : vc xs zH_143 (n + 1) true d 143 2 ml st t Q = twp xs d 143 2 ml st t Q := id rfl
theorem v_143_3 (xs : Option (List Int32)) (n : Nat) (b : Bool) (d : Nat) (ml : List Value) (t : T) (Q : Option Value → T → Prop) (st : List Value) : vc xs zH_143 (n + 1) b d 143 3 ml st t Q = vgi ml 1 (fun v => vc xs zH_143 n true d 143 4 ml (.int v :: st) t Q) := by
  rw [vc_q (o := (1, 0, 1, 0, [])) (by decide +kernel)]; rfl
theorem v_143_4 (xs : Option (List Int32)) (n : Nat) (b : Bool) (d : Nat) (ml : List Value) (t : T) (Q : Option Value → T → Prop) (u v : Int32) (r : List Value) : vc xs zH_143 (n + 1) b d 143 4 ml (.int v :: .int u :: r) t Q = (if u < v then vc xs zH_143 n true d 143 7 ml r t Q else vc xs zH_143 n true d 143 30 ml r t Q) := by
  rw [vc_q (o := (20, 0, 30, 3, [])) (by decide +kernel)]; rfl
theorem v_143_7 (xs : Option (List Int32)) (n : Nat) (b : Bool) (d : Nat) (ml : List Value) (t : T) (Q : Option Value → T → Prop) (st : List Value) : vc xs zH_143 (n + 1) b d 143 7 ml st t Q = vga ml 0 (fun v => vc xs zH_143 n true d 143 8 ml (.ref v :: st) t Q) := by
  rw [vc_q (o := (2, 0, 0, 0, [])) (by decide +kernel)]; rfl
theorem v_143_8 (xs : Option (List Int32)) (n : Nat) (b : Bool) (d : Nat) (ml : List Value) (t : T) (Q : Option Value → T → Prop) (u : Nat) (r : List Value) : vc xs zH_143 (n + 1) b d 143 8 ml (.ref u :: r) t Q = (vtag u = 9 ∧ vc xs zH_143 n true d 143 11 ml (.ref (tref t u 1) :: r) t Q) := by
  rw [vc_q (o := (25, 0, 9, 1, [])) (by decide +kernel)]; rfl
theorem v_143_11 (xs : Option (List Int32)) (n : Nat) (b : Bool) (d : Nat) (ml : List Value) (t : T) (Q : Option Value → T → Prop) (st : List Value) : vc xs zH_143 (n + 1) b d 143 11 ml st t Q = vgi ml 2 (fun v => vc xs zH_143 n true d 143 12 ml (.int v :: st) t Q) := by
  rw [vc_q (o := (1, 0, 2, 0, [])) (by decide +kernel)]; rfl
theorem v_143_12 (xs : Option (List Int32)) (n : Nat) (b : Bool) (d : Nat) (ml : List Value) (t : T) (Q : Option Value → T → Prop) (v : Int32) (u : Nat) (r : List Value) : vc xs zH_143 (n + 1) b d 143 12 ml (.int v :: .ref u :: r) t Q = (vtag u = 100 ∧ vinb v (vlen u) ∧ vc xs zH_143 n true d 143 13 ml (.int (t.1 u v.toNatClampNeg) :: r) t Q) := by
  rw [vc_q (o := (29, 0, 0, 0, [])) (by decide +kernel)]; rfl
theorem v_143_13 (xs : Option (List Int32)) (n : Nat) (b : Bool) (d : Nat) (ml : List Value) (t : T) (Q : Option Value → T → Prop) (st : List Value) : vc xs zH_143 (n + 1) b d 143 13 ml st t Q = vga ml 0 (fun v => vc xs zH_143 n true d 143 14 ml (.ref v :: st) t Q) := by
  rw [vc_q (o := (2, 0, 0, 0, [])) (by decide +kernel)]; rfl
theorem v_143_14 (xs : Option (List Int32)) (n : Nat) (b : Bool) (d : Nat) (ml : List Value) (t : T) (Q : Option Value → T → Prop) (u : Nat) (r : List Value) : vc xs zH_143 (n + 1) b d 143 14 ml (.ref u :: r) t Q = (vtag u = 9 ∧ vc xs zH_143 n true d 143 17 ml (.ref (tref t u 1) :: r) t Q) := by
  rw [vc_q (o := (25, 0, 9, 1, [])) (by decide +kernel)]; rfl
theorem v_143_17 (xs : Option (List Int32)) (n : Nat) (b : Bool) (d : Nat) (ml : List Value) (t : T) (Q : Option Value → T → Prop) (st : List Value) : vc xs zH_143 (n + 1) b d 143 17 ml st t Q = vgi ml 1 (fun v => vc xs zH_143 n true d 143 18 ml (.int v :: st) t Q) := by
  rw [vc_q (o := (1, 0, 1, 0, [])) (by decide +kernel)]; rfl
theorem v_143_18 (xs : Option (List Int32)) (n : Nat) (b : Bool) (d : Nat) (ml : List Value) (t : T) (Q : Option Value → T → Prop) (v : Int32) (u : Nat) (r : List Value) : vc xs zH_143 (n + 1) b d 143 18 ml (.int v :: .ref u :: r) t Q = (vtag u = 100 ∧ vinb v (vlen u) ∧ vc xs zH_143 n true d 143 19 ml (.int (t.1 u v.toNatClampNeg) :: r) t Q) := by
  rw [vc_q (o := (29, 0, 0, 0, [])) (by decide +kernel)]; rfl
theorem v_143_19 (xs : Option (List Int32)) (n : Nat) (b : Bool) (d : Nat) (ml : List Value) (t : T) (Q : Option Value → T → Prop) (u v : Int32) (r : List Value) : vc xs zH_143 (n + 1) b d 143 19 ml (.int v :: .int u :: r) t Q = (if u = v then vc xs zH_143 n true d 143 22 ml r t Q else vc xs zH_143 n true d 143 24 ml r t Q) := by
  rw [vc_q (o := (20, 0, 24, 1, [])) (by decide +kernel)]; rfl
theorem v_143_22 (xs : Option (List Int32)) (n : Nat) (b : Bool) (d : Nat) (ml : List Value) (t : T) (Q : Option Value → T → Prop) (st : List Value) : vc xs zH_143 (n + 1) b d 143 22 ml st t Q = vc xs zH_143 n true d 143 23 ml (.int 0 :: st) t Q := by
  rw [vc_q (o := (0, 0, 0, 0, [])) (by decide +kernel)]; rfl
theorem v_143_23 (xs : Option (List Int32)) (n : Nat) (b : Bool) (d : Nat) (ml : List Value) (t : T) (Q : Option Value → T → Prop) (v : Int32) : vc xs zH_143 (n + 1) b d 143 23 ml [.int v] t Q = ((v = 0 ∨ v = 1) ∧ Q (some (.int v)) t) := by
  rw [vc_q (o := (41, 0, 0, 0, [])) (by decide +kernel)]; rfl
theorem v_143_24 (xs : Option (List Int32)) (n : Nat) (b : Bool) (d : Nat) (ml : List Value) (t : T) (Q : Option Value → T → Prop) (st : List Value) : vc xs zH_143 (n + 1) b d 143 24 ml st t Q = vgi ml 2 (fun v => vset ml 2 (.int (v + 1)) (fun l => vc xs zH_143 n true d 143 27 l st t Q)) := by
  rw [vc_q (o := (5, 1, 2, 0, [])) (by decide +kernel)]; rfl
theorem v_143_27 (xs : Option (List Int32)) (n : Nat) (b : Bool) (d : Nat) (ml : List Value) (t : T) (Q : Option Value → T → Prop) (st : List Value) : vc xs zH_143 (n + 1) b d 143 27 ml st t Q = vc xs zH_143 n true d 143 2 ml st t Q := by
  rw [vc_q (o := (22, 0, 2, 0, [])) (by decide +kernel)]; rfl
theorem v_143_30 (xs : Option (List Int32)) (n : Nat) (b : Bool) (d : Nat) (ml : List Value) (t : T) (Q : Option Value → T → Prop) (st : List Value) : vc xs zH_143 (n + 1) b d 143 30 ml st t Q = vc xs zH_143 n true d 143 31 ml (.int 1 :: st) t Q := by
  rw [vc_q (o := (0, 1, 0, 0, [])) (by decide +kernel)]; rfl
theorem v_143_31 (xs : Option (List Int32)) (n : Nat) (b : Bool) (d : Nat) (ml : List Value) (t : T) (Q : Option Value → T → Prop) (v : Int32) : vc xs zH_143 (n + 1) b d 143 31 ml [.int v] t Q = ((v = 0 ∨ v = 1) ∧ Q (some (.int v)) t) := by
  rw [vc_q (o := (41, 0, 0, 0, [])) (by decide +kernel)]; rfl
def zH_144 : List Nat := [10]
theorem v_144_0 (xs : Option (List Int32)) (n : Nat) (b : Bool) (d : Nat) (ml : List Value) (t : T) (Q : Option Value → T → Prop) (st : List Value) : vc xs zH_144 (n + 1) b d 144 0 ml st t Q = vga ml 0 (fun v => vc xs zH_144 n true d 144 1 ml (.ref v :: st) t Q) := by
  rw [vc_q (o := (2, 0, 0, 0, [])) (by decide +kernel)]; rfl
theorem v_144_1 (xs : Option (List Int32)) (n : Nat) (b : Bool) (d : Nat) (ml : List Value) (t : T) (Q : Option Value → T → Prop) (u : Nat) (r : List Value) : vc xs zH_144 (n + 1) b d 144 1 ml (.ref u :: r) t Q = (vtag u = 9 ∧ vc xs zH_144 n true d 144 4 ml (.ref (tref t u 3) :: r) t Q) := by
  rw [vc_q (o := (25, 0, 9, 3, [])) (by decide +kernel)]; rfl
theorem v_144_4 (xs : Option (List Int32)) (n : Nat) (b : Bool) (d : Nat) (ml : List Value) (t : T) (Q : Option Value → T → Prop) (st : List Value) : vc xs zH_144 (n + 1) b d 144 4 ml st t Q = vgi ml 2 (fun v => vc xs zH_144 n true d 144 5 ml (.int v :: st) t Q) := by
  rw [vc_q (o := (1, 0, 2, 0, [])) (by decide +kernel)]; rfl
theorem v_144_5 (xs : Option (List Int32)) (n : Nat) (b : Bool) (d : Nat) (ml : List Value) (t : T) (Q : Option Value → T → Prop) (v : Int32) (u : Nat) (r : List Value) : vc xs zH_144 (n + 1) b d 144 5 ml (.int v :: .ref u :: r) t Q = (vtag u = 100 ∧ vinb v (vlen u) ∧ vc xs zH_144 n true d 144 6 ml (.int (t.1 u v.toNatClampNeg) :: r) t Q) := by
  rw [vc_q (o := (29, 0, 0, 0, [])) (by decide +kernel)]; rfl
theorem v_144_6 (xs : Option (List Int32)) (n : Nat) (b : Bool) (d : Nat) (ml : List Value) (t : T) (Q : Option Value → T → Prop) (v : Int32) (r : List Value) : vc xs zH_144 (n + 1) b d 144 6 ml (.int v :: r) t Q = vset ml 3 (.int v) (fun l => vc xs zH_144 n true d 144 7 l r t Q) := by
  rw [vc_q (o := (3, 0, 3, 0, [])) (by decide +kernel)]; rfl
theorem v_144_7 (xs : Option (List Int32)) (n : Nat) (b : Bool) (d : Nat) (ml : List Value) (t : T) (Q : Option Value → T → Prop) (st : List Value) : vc xs zH_144 (n + 1) b d 144 7 ml st t Q = vc xs zH_144 n true d 144 8 ml (.int 2 :: st) t Q := by
  rw [vc_q (o := (0, 2, 0, 0, [])) (by decide +kernel)]; rfl
theorem v_144_8 (xs : Option (List Int32)) (n : Nat) (b : Bool) (d : Nat) (ml : List Value) (t : T) (Q : Option Value → T → Prop) (v : Int32) (r : List Value) : vc xs zH_144 (n + 1) b d 144 8 ml (.int v :: r) t Q = vset ml 4 (.int v) (fun l => vc xs zH_144 n true d 144 10 l r t Q) := by
  rw [vc_q (o := (3, 0, 4, 1, [])) (by decide +kernel)]; rfl
theorem v_144_10 (xs : Option (List Int32)) (n : Nat) (d : Nat) (ml : List Value) (t : T) (Q : Option Value → T → Prop) (st : List Value) : vc xs zH_144 (n + 1) false d 144 10 ml st t Q = vgi ml 4 (fun v => vc xs zH_144 n true d 144 12 ml (.int v :: st) t Q) := by
  rw [vc_q (o := (1, 0, 4, 1, [])) (by decide +kernel)]; rfl
theorem h_144_10 (xs : Option (List Int32)) (n d : Nat) (ml st : List Value) (t : T) (Q : Option Value → T → Prop) : vc xs zH_144 (n + 1) true d 144 10 ml st t Q = twp xs d 144 10 ml st t Q := id rfl
theorem v_144_12 (xs : Option (List Int32)) (n : Nat) (b : Bool) (d : Nat) (ml : List Value) (t : T) (Q : Option Value → T → Prop) (st : List Value) : vc xs zH_144 (n + 1) b d 144 12 ml st t Q = vc xs zH_144 n true d 144 14 ml (.int 6 :: st) t Q := by
  rw [vc_q (o := (0, 6, 1, 0, [])) (by decide +kernel)]; rfl
theorem v_144_14 (xs : Option (List Int32)) (n : Nat) (b : Bool) (d : Nat) (ml : List Value) (t : T) (Q : Option Value → T → Prop) (u v : Int32) (r : List Value) : vc xs zH_144 (n + 1) b d 144 14 ml (.int v :: .int u :: r) t Q = (if u < v then vc xs zH_144 n true d 144 17 ml r t Q else vc xs zH_144 n true d 144 42 ml r t Q) := by
  rw [vc_q (o := (20, 0, 42, 3, [])) (by decide +kernel)]; rfl
theorem v_144_17 (xs : Option (List Int32)) (n : Nat) (b : Bool) (d : Nat) (ml : List Value) (t : T) (Q : Option Value → T → Prop) (st : List Value) : vc xs zH_144 (n + 1) b d 144 17 ml st t Q = vga ml 1 (fun v => vc xs zH_144 n true d 144 18 ml (.ref v :: st) t Q) := by
  rw [vc_q (o := (2, 0, 1, 0, [])) (by decide +kernel)]; rfl
theorem v_144_18 (xs : Option (List Int32)) (n : Nat) (b : Bool) (d : Nat) (ml : List Value) (t : T) (Q : Option Value → T → Prop) (st : List Value) : vc xs zH_144 (n + 1) b d 144 18 ml st t Q = vgi ml 4 (fun v => vc xs zH_144 n true d 144 20 ml (.int v :: st) t Q) := by
  rw [vc_q (o := (1, 0, 4, 1, [])) (by decide +kernel)]; rfl
theorem v_144_20 (xs : Option (List Int32)) (n : Nat) (b : Bool) (d : Nat) (ml : List Value) (t : T) (Q : Option Value → T → Prop) (st : List Value) : vc xs zH_144 (n + 1) b d 144 20 ml st t Q = vgi ml 3 (fun v => vc xs zH_144 n true d 144 21 ml (.int v :: st) t Q) := by
  rw [vc_q (o := (1, 0, 3, 0, [])) (by decide +kernel)]; rfl
theorem v_144_21 (xs : Option (List Int32)) (n : Nat) (b : Bool) (d : Nat) (ml : List Value) (t : T) (Q : Option Value → T → Prop) (st : List Value) : vc xs zH_144 (n + 1) b d 144 21 ml st t Q = vc xs zH_144 n true d 144 22 ml (.int 0 :: st) t Q := by
  rw [vc_q (o := (0, 0, 0, 0, [])) (by decide +kernel)]; rfl
theorem v_144_22 (xs : Option (List Int32)) (n : Nat) (b : Bool) (d : Nat) (ml : List Value) (t : T) (Q : Option Value → T → Prop) (st : List Value) : vc xs zH_144 (n + 1) b d 144 22 ml st t Q = vga ml 0 (fun v => vc xs zH_144 n true d 144 23 ml (.ref v :: st) t Q) := by
  rw [vc_q (o := (2, 0, 0, 0, [])) (by decide +kernel)]; rfl
theorem v_144_23 (xs : Option (List Int32)) (n : Nat) (b : Bool) (d : Nat) (ml : List Value) (t : T) (Q : Option Value → T → Prop) (u : Nat) (r : List Value) : vc xs zH_144 (n + 1) b d 144 23 ml (.ref u :: r) t Q = (vtag u = 9 ∧ vc xs zH_144 n true d 144 26 ml (.ref (tref t u 0) :: r) t Q) := by
  rw [vc_q (o := (25, 0, 9, 0, [])) (by decide +kernel)]; rfl
theorem v_144_26 (xs : Option (List Int32)) (n : Nat) (b : Bool) (d : Nat) (ml : List Value) (t : T) (Q : Option Value → T → Prop) (st : List Value) : vc xs zH_144 (n + 1) b d 144 26 ml st t Q = vgi ml 4 (fun v => vc xs zH_144 n true d 144 28 ml (.int v :: st) t Q) := by
  rw [vc_q (o := (1, 0, 4, 1, [])) (by decide +kernel)]; rfl
theorem v_144_28 (xs : Option (List Int32)) (n : Nat) (b : Bool) (d : Nat) (ml : List Value) (t : T) (Q : Option Value → T → Prop) (st : List Value) : vc xs zH_144 (n + 1) b d 144 28 ml st t Q = vgi ml 2 (fun v => vc xs zH_144 n true d 144 29 ml (.int v :: st) t Q) := by
  rw [vc_q (o := (1, 0, 2, 0, [])) (by decide +kernel)]; rfl
theorem v_144_29 (xs : Option (List Int32)) (n : Nat) (b : Bool) (d : Nat) (ml : List Value) (t : T) (Q : Option Value → T → Prop) (st : List Value) : vc xs zH_144 (n + 1) b d 144 29 ml st t Q = vc xs zH_144 n true d 144 30 ml (.int 0 :: st) t Q := by
  rw [vc_q (o := (0, 0, 0, 0, [])) (by decide +kernel)]; rfl
theorem v_144_30 (xs : Option (List Int32)) (n : Nat) (b : Bool) (d : Nat) (ml : List Value) (t : T) (Q : Option Value → T → Prop) (st : List Value) : vc xs zH_144 (n + 1) b d 144 30 ml st t Q = (st.all zc1 = true ∧ vtk 4 st [] (fun as rest => rest.length ≤ 8 ∧ vrc as 4 (twc d 162 as t (fun r t' => vc xs zH_144 n true d 144 33 ml (r.toList ++ rest) t' Q)))) := by
  rw [vc_q (o := (36, 0, 162, 3, [(0, 4)])) (by decide +kernel)]; rfl
theorem v_144_33 (xs : Option (List Int32)) (n : Nat) (b : Bool) (d : Nat) (ml : List Value) (t : T) (Q : Option Value → T → Prop) (st : List Value) : vc xs zH_144 (n + 1) b d 144 33 ml st t Q = (st.all zc1 = true ∧ vtk 5 st [] (fun as rest => rest.length ≤ 8 ∧ vrc as 4 (twc d 163 as t (fun r t' => vc xs zH_144 n true d 144 36 ml (r.toList ++ rest) t' Q)))) := by
  rw [vc_q (o := (36, 0, 163, 4, [(0, 4)])) (by decide +kernel)]; rfl
theorem v_144_36 (xs : Option (List Int32)) (n : Nat) (b : Bool) (d : Nat) (ml : List Value) (t : T) (Q : Option Value → T → Prop) (st : List Value) : vc xs zH_144 (n + 1) b d 144 36 ml st t Q = vgi ml 4 (fun v => vset ml 4 (.int (v + 1)) (fun l => vc xs zH_144 n true d 144 39 l st t Q)) := by
  rw [vc_q (o := (5, 1, 4, 0, [])) (by decide +kernel)]; rfl
theorem v_144_39 (xs : Option (List Int32)) (n : Nat) (b : Bool) (d : Nat) (ml : List Value) (t : T) (Q : Option Value → T → Prop) (st : List Value) : vc xs zH_144 (n + 1) b d 144 39 ml st t Q = vc xs zH_144 n true d 144 10 ml st t Q := by
  rw [vc_q (o := (22, 0, 10, 0, [])) (by decide +kernel)]; rfl
theorem v_144_42 (xs : Option (List Int32)) (n : Nat) (b : Bool) (d : Nat) (ml : List Value) (t : T) (Q : Option Value → T → Prop) (st : List Value) : vc xs zH_144 (n + 1) b d 144 42 ml st t Q = vga ml 0 (fun v => vc xs zH_144 n true d 144 43 ml (.ref v :: st) t Q) := by
  rw [vc_q (o := (2, 0, 0, 0, [])) (by decide +kernel)]; rfl
theorem v_144_43 (xs : Option (List Int32)) (n : Nat) (b : Bool) (d : Nat) (ml : List Value) (t : T) (Q : Option Value → T → Prop) (u : Nat) (r : List Value) : vc xs zH_144 (n + 1) b d 144 43 ml (.ref u :: r) t Q = (vtag u = 9 ∧ vc xs zH_144 n true d 144 46 ml (.ref (tref t u 2) :: r) t Q) := by
  rw [vc_q (o := (25, 0, 9, 2, [])) (by decide +kernel)]; rfl
theorem v_144_46 (xs : Option (List Int32)) (n : Nat) (b : Bool) (d : Nat) (ml : List Value) (t : T) (Q : Option Value → T → Prop) (st : List Value) : vc xs zH_144 (n + 1) b d 144 46 ml st t Q = vgi ml 2 (fun v => vc xs zH_144 n true d 144 47 ml (.int v :: st) t Q) := by
  rw [vc_q (o := (1, 0, 2, 0, [])) (by decide +kernel)]; rfl
theorem v_144_47 (xs : Option (List Int32)) (n : Nat) (b : Bool) (d : Nat) (ml : List Value) (t : T) (Q : Option Value → T → Prop) (v : Int32) (u : Nat) (r : List Value) : vc xs zH_144 (n + 1) b d 144 47 ml (.int v :: .ref u :: r) t Q = ((vtag u = 101 ∨ vtag u = 102) ∧ vinb v (vlen u) ∧ vc xs zH_144 n true d 144 48 ml (.int (t.1 u v.toNatClampNeg) :: r) t Q) := by
  rw [vc_q (o := (30, 0, 0, 0, [])) (by decide +kernel)]; rfl
theorem v_144_48 (xs : Option (List Int32)) (n : Nat) (b : Bool) (d : Nat) (ml : List Value) (t : T) (Q : Option Value → T → Prop) (u : Int32) (r : List Value) : vc xs zH_144 (n + 1) b d 144 48 ml (.int u :: r) t Q = (if u = 0 then vc xs zH_144 n true d 144 62 ml r t Q else vc xs zH_144 n true d 144 51 ml r t Q) := by
  rw [vc_q (o := (21, 0, 62, 0, [])) (by decide +kernel)]; rfl
theorem v_144_51 (xs : Option (List Int32)) (n : Nat) (b : Bool) (d : Nat) (ml : List Value) (t : T) (Q : Option Value → T → Prop) (st : List Value) : vc xs zH_144 (n + 1) b d 144 51 ml st t Q = vga ml 0 (fun v => vc xs zH_144 n true d 144 52 ml (.ref v :: st) t Q) := by
  rw [vc_q (o := (2, 0, 0, 0, [])) (by decide +kernel)]; rfl
theorem v_144_52 (xs : Option (List Int32)) (n : Nat) (b : Bool) (d : Nat) (ml : List Value) (t : T) (Q : Option Value → T → Prop) (u : Nat) (r : List Value) : vc xs zH_144 (n + 1) b d 144 52 ml (.ref u :: r) t Q = (vtag u = 9 ∧ vc xs zH_144 n true d 144 55 ml (.ref (tref t u 0) :: r) t Q) := by
  rw [vc_q (o := (25, 0, 9, 0, [])) (by decide +kernel)]; rfl
theorem v_144_55 (xs : Option (List Int32)) (n : Nat) (b : Bool) (d : Nat) (ml : List Value) (t : T) (Q : Option Value → T → Prop) (st : List Value) : vc xs zH_144 (n + 1) b d 144 55 ml st t Q = vgi ml 2 (fun v => vc xs zH_144 n true d 144 56 ml (.int v :: st) t Q) := by
  rw [vc_q (o := (1, 0, 2, 0, [])) (by decide +kernel)]; rfl
theorem v_144_56 (xs : Option (List Int32)) (n : Nat) (b : Bool) (d : Nat) (ml : List Value) (t : T) (Q : Option Value → T → Prop) (st : List Value) : vc xs zH_144 (n + 1) b d 144 56 ml st t Q = (st.all zc1 = true ∧ vtk 2 st [] (fun as rest => rest.length ≤ 8 ∧ vrc as 4 (twc d 165 as t (fun r t' => vc xs zH_144 n true d 144 59 ml (r.toList ++ rest) t' Q)))) := by
  rw [vc_q (o := (36, 0, 165, 1, [(0, 4)])) (by decide +kernel)]; rfl
theorem v_144_59 (xs : Option (List Int32)) (n : Nat) (b : Bool) (d : Nat) (ml : List Value) (t : T) (Q : Option Value → T → Prop) (u : Int32) (r : List Value) : vc xs zH_144 (n + 1) b d 144 59 ml (.int u :: r) t Q = (if u = 0 then vc xs zH_144 n true d 144 68 ml r t Q else vc xs zH_144 n true d 144 62 ml r t Q) := by
  rw [vc_q (o := (21, 0, 68, 0, [])) (by decide +kernel)]; rfl
theorem v_144_62 (xs : Option (List Int32)) (n : Nat) (b : Bool) (d : Nat) (ml : List Value) (t : T) (Q : Option Value → T → Prop) (st : List Value) : vc xs zH_144 (n + 1) b d 144 62 ml st t Q = vga ml 1 (fun v => vc xs zH_144 n true d 144 63 ml (.ref v :: st) t Q) := by
  rw [vc_q (o := (2, 0, 1, 0, [])) (by decide +kernel)]; rfl
theorem v_144_63 (xs : Option (List Int32)) (n : Nat) (b : Bool) (d : Nat) (ml : List Value) (t : T) (Q : Option Value → T → Prop) (st : List Value) : vc xs zH_144 (n + 1) b d 144 63 ml st t Q = vgi ml 3 (fun v => vc xs zH_144 n true d 144 64 ml (.int v :: st) t Q) := by
  rw [vc_q (o := (1, 0, 3, 0, [])) (by decide +kernel)]; rfl
theorem v_144_64 (xs : Option (List Int32)) (n : Nat) (b : Bool) (d : Nat) (ml : List Value) (t : T) (Q : Option Value → T → Prop) (st : List Value) : vc xs zH_144 (n + 1) b d 144 64 ml st t Q = vc xs zH_144 n true d 144 65 ml (.int 1 :: st) t Q := by
  rw [vc_q (o := (0, 1, 0, 0, [])) (by decide +kernel)]; rfl
theorem v_144_65 (xs : Option (List Int32)) (n : Nat) (b : Bool) (d : Nat) (ml : List Value) (t : T) (Q : Option Value → T → Prop) (st : List Value) : vc xs zH_144 (n + 1) b d 144 65 ml st t Q = (st.all zc1 = true ∧ vtk 3 st [] (fun as rest => rest.length ≤ 8 ∧ vrc as 4 (twc d 166 as t (fun r t' => vc xs zH_144 n true d 144 68 ml (r.toList ++ rest) t' Q)))) := by
  rw [vc_q (o := (36, 0, 166, 2, [(0, 4)])) (by decide +kernel)]; rfl
theorem v_144_68 (xs : Option (List Int32)) (n : Nat) (b : Bool) (d : Nat) (ml : List Value) (t : T) (Q : Option Value → T → Prop)  : vc xs zH_144 (n + 1) b d 144 68 ml [] t Q = Q none t := by
  rw [vc_q (o := (43, 0, 0, 0, [])) (by decide +kernel)]; rfl
def zH_145 : List Nat := [29]
theorem v_145_0 (xs : Option (List Int32)) (n : Nat) (b : Bool) (d : Nat) (ml : List Value) (t : T) (Q : Option Value → T → Prop) (st : List Value) : vc xs zH_145 (n + 1) b d 145 0 ml st t Q = vga ml 0 (fun v => vc xs zH_145 n true d 145 1 ml (.ref v :: st) t Q) := by
  rw [vc_q (o := (2, 0, 0, 0, [])) (by decide +kernel)]; rfl
theorem v_145_1 (xs : Option (List Int32)) (n : Nat) (b : Bool) (d : Nat) (ml : List Value) (t : T) (Q : Option Value → T → Prop) (u : Nat) (r : List Value) : vc xs zH_145 (n + 1) b d 145 1 ml (.ref u :: r) t Q = (vtag u = 9 ∧ vc xs zH_145 n true d 145 4 ml (.ref (tref t u 2) :: r) t Q) := by
  rw [vc_q (o := (25, 0, 9, 2, [])) (by decide +kernel)]; rfl
theorem v_145_4 (xs : Option (List Int32)) (n : Nat) (b : Bool) (d : Nat) (ml : List Value) (t : T) (Q : Option Value → T → Prop) (st : List Value) : vc xs zH_145 (n + 1) b d 145 4 ml st t Q = vgi ml 2 (fun v => vc xs zH_145 n true d 145 5 ml (.int v :: st) t Q) := by
  rw [vc_q (o := (1, 0, 2, 0, [])) (by decide +kernel)]; rfl
theorem v_145_5 (xs : Option (List Int32)) (n : Nat) (b : Bool) (d : Nat) (ml : List Value) (t : T) (Q : Option Value → T → Prop) (v : Int32) (u : Nat) (r : List Value) : vc xs zH_145 (n + 1) b d 145 5 ml (.int v :: .ref u :: r) t Q = ((vtag u = 101 ∨ vtag u = 102) ∧ vinb v (vlen u) ∧ vc xs zH_145 n true d 145 6 ml (.int (t.1 u v.toNatClampNeg) :: r) t Q) := by
  rw [vc_q (o := (30, 0, 0, 0, [])) (by decide +kernel)]; rfl
theorem v_145_6 (xs : Option (List Int32)) (n : Nat) (b : Bool) (d : Nat) (ml : List Value) (t : T) (Q : Option Value → T → Prop) (u : Int32) (r : List Value) : vc xs zH_145 (n + 1) b d 145 6 ml (.int u :: r) t Q = (if u = 0 then vc xs zH_145 n true d 145 22 ml r t Q else vc xs zH_145 n true d 145 9 ml r t Q) := by
  rw [vc_q (o := (21, 0, 22, 0, [])) (by decide +kernel)]; rfl
theorem v_145_9 (xs : Option (List Int32)) (n : Nat) (b : Bool) (d : Nat) (ml : List Value) (t : T) (Q : Option Value → T → Prop) (st : List Value) : vc xs zH_145 (n + 1) b d 145 9 ml st t Q = vga ml 0 (fun v => vc xs zH_145 n true d 145 10 ml (.ref v :: st) t Q) := by
  rw [vc_q (o := (2, 0, 0, 0, [])) (by decide +kernel)]; rfl
theorem v_145_10 (xs : Option (List Int32)) (n : Nat) (b : Bool) (d : Nat) (ml : List Value) (t : T) (Q : Option Value → T → Prop) (u : Nat) (r : List Value) : vc xs zH_145 (n + 1) b d 145 10 ml (.ref u :: r) t Q = (vtag u = 9 ∧ vc xs zH_145 n true d 145 13 ml (.ref (tref t u 2) :: r) t Q) := by
  rw [vc_q (o := (25, 0, 9, 2, [])) (by decide +kernel)]; rfl
theorem v_145_13 (xs : Option (List Int32)) (n : Nat) (b : Bool) (d : Nat) (ml : List Value) (t : T) (Q : Option Value → T → Prop) (st : List Value) : vc xs zH_145 (n + 1) b d 145 13 ml st t Q = vgi ml 3 (fun v => vc xs zH_145 n true d 145 14 ml (.int v :: st) t Q) := by
  rw [vc_q (o := (1, 0, 3, 0, [])) (by decide +kernel)]; rfl
theorem v_145_14 (xs : Option (List Int32)) (n : Nat) (b : Bool) (d : Nat) (ml : List Value) (t : T) (Q : Option Value → T → Prop) (v : Int32) (u : Nat) (r : List Value) : vc xs zH_145 (n + 1) b d 145 14 ml (.int v :: .ref u :: r) t Q = ((vtag u = 101 ∨ vtag u = 102) ∧ vinb v (vlen u) ∧ vc xs zH_145 n true d 145 15 ml (.int (t.1 u v.toNatClampNeg) :: r) t Q) := by
  rw [vc_q (o := (30, 0, 0, 0, [])) (by decide +kernel)]; rfl
theorem v_145_15 (xs : Option (List Int32)) (n : Nat) (b : Bool) (d : Nat) (ml : List Value) (t : T) (Q : Option Value → T → Prop) (u : Int32) (r : List Value) : vc xs zH_145 (n + 1) b d 145 15 ml (.int u :: r) t Q = (if u = 0 then vc xs zH_145 n true d 145 22 ml r t Q else vc xs zH_145 n true d 145 18 ml r t Q) := by
  rw [vc_q (o := (21, 0, 22, 0, [])) (by decide +kernel)]; rfl
theorem v_145_18 (xs : Option (List Int32)) (n : Nat) (b : Bool) (d : Nat) (ml : List Value) (t : T) (Q : Option Value → T → Prop) (st : List Value) : vc xs zH_145 (n + 1) b d 145 18 ml st t Q = vc xs zH_145 n true d 145 19 ml (.int 1 :: st) t Q := by
  rw [vc_q (o := (0, 1, 0, 0, [])) (by decide +kernel)]; rfl
theorem v_145_19 (xs : Option (List Int32)) (n : Nat) (b : Bool) (d : Nat) (ml : List Value) (t : T) (Q : Option Value → T → Prop) (st : List Value) : vc xs zH_145 (n + 1) b d 145 19 ml st t Q = vc xs zH_145 n true d 145 23 ml st t Q := by
  rw [vc_q (o := (22, 0, 23, 0, [])) (by decide +kernel)]; rfl
theorem v_145_22 (xs : Option (List Int32)) (n : Nat) (b : Bool) (d : Nat) (ml : List Value) (t : T) (Q : Option Value → T → Prop) (st : List Value) : vc xs zH_145 (n + 1) b d 145 22 ml st t Q = vc xs zH_145 n true d 145 23 ml (.int 0 :: st) t Q := by
  rw [vc_q (o := (0, 0, 0, 0, [])) (by decide +kernel)]; rfl
theorem v_145_23 (xs : Option (List Int32)) (n : Nat) (b : Bool) (d : Nat) (ml : List Value) (t : T) (Q : Option Value → T → Prop) (v : Int32) (r : List Value) : vc xs zH_145 (n + 1) b d 145 23 ml (.int v :: r) t Q = vset ml 4 (.int v) (fun l => vc xs zH_145 n true d 145 25 l r t Q) := by
  rw [vc_q (o := (3, 0, 4, 1, [])) (by decide +kernel)]; rfl
theorem v_145_25 (xs : Option (List Int32)) (n : Nat) (b : Bool) (d : Nat) (ml : List Value) (t : T) (Q : Option Value → T → Prop) (st : List Value) : vc xs zH_145 (n + 1) b d 145 25 ml st t Q = vc xs zH_145 n true d 145 27 ml (.int 6 :: st) t Q := by
  rw [vc_q (o := (0, 6, 1, 0, [])) (by decide +kernel)]; rfl
theorem v_145_27 (xs : Option (List Int32)) (n : Nat) (b : Bool) (d : Nat) (ml : List Value) (t : T) (Q : Option Value → T → Prop) (v : Int32) (r : List Value) : vc xs zH_145 (n + 1) b d 145 27 ml (.int v :: r) t Q = vset ml 5 (.int v) (fun l => vc xs zH_145 n true d 145 29 l r t Q) := by
  rw [vc_q (o := (3, 0, 5, 1, [])) (by decide +kernel)]; rfl
theorem v_145_29 (xs : Option (List Int32)) (n : Nat) (d : Nat) (ml : List Value) (t : T) (Q : Option Value → T → Prop) (st : List Value) : vc xs zH_145 (n + 1) false d 145 29 ml st t Q = vgi ml 5 (fun v => vc xs zH_145 n true d 145 31 ml (.int v :: st) t Q) := by
  rw [vc_q (o := (1, 0, 5, 1, [])) (by decide +kernel)]; rfl
theorem h_145_29 (xs : Option (List Int32)) (n d : Nat) (ml st : List Value) (t : T) (Q : Option Value → T → Prop) : vc xs zH_145 (n + 1) true d 145 29 ml st t Q = twp xs d 145 29 ml st t Q := id rfl
theorem v_145_31 (xs : Option (List Int32)) (n : Nat) (b : Bool) (d : Nat) (ml : List Value) (t : T) (Q : Option Value → T → Prop) (st : List Value) : vc xs zH_145 (n + 1) b d 145 31 ml st t Q = vc xs zH_145 n true d 145 33 ml (.int 8 :: st) t Q := by
  rw [vc_q (o := (0, 8, 1, 0, [])) (by decide +kernel)]; rfl
theorem v_145_33 (xs : Option (List Int32)) (n : Nat) (b : Bool) (d : Nat) (ml : List Value) (t : T) (Q : Option Value → T → Prop) (u v : Int32) (r : List Value) : vc xs zH_145 (n + 1) b d 145 33 ml (.int v :: .int u :: r) t Q = (if u < v then vc xs zH_145 n true d 145 36 ml r t Q else vc xs zH_145 n true d 145 106 ml r t Q) := by
  rw [vc_q (o := (20, 0, 106, 3, [])) (by decide +kernel)]; rfl
theorem v_145_36 (xs : Option (List Int32)) (n : Nat) (b : Bool) (d : Nat) (ml : List Value) (t : T) (Q : Option Value → T → Prop) (st : List Value) : vc xs zH_145 (n + 1) b d 145 36 ml st t Q = vga ml 0 (fun v => vc xs zH_145 n true d 145 37 ml (.ref v :: st) t Q) := by
  rw [vc_q (o := (2, 0, 0, 0, [])) (by decide +kernel)]; rfl
theorem v_145_37 (xs : Option (List Int32)) (n : Nat) (b : Bool) (d : Nat) (ml : List Value) (t : T) (Q : Option Value → T → Prop) (u : Nat) (r : List Value) : vc xs zH_145 (n + 1) b d 145 37 ml (.ref u :: r) t Q = (vtag u = 9 ∧ vc xs zH_145 n true d 145 40 ml (.ref (tref t u 0) :: r) t Q) := by
  rw [vc_q (o := (25, 0, 9, 0, [])) (by decide +kernel)]; rfl
theorem v_145_40 (xs : Option (List Int32)) (n : Nat) (b : Bool) (d : Nat) (ml : List Value) (t : T) (Q : Option Value → T → Prop) (st : List Value) : vc xs zH_145 (n + 1) b d 145 40 ml st t Q = vgi ml 5 (fun v => vc xs zH_145 n true d 145 42 ml (.int v :: st) t Q) := by
  rw [vc_q (o := (1, 0, 5, 1, [])) (by decide +kernel)]; rfl
theorem v_145_42 (xs : Option (List Int32)) (n : Nat) (b : Bool) (d : Nat) (ml : List Value) (t : T) (Q : Option Value → T → Prop) (st : List Value) : vc xs zH_145 (n + 1) b d 145 42 ml st t Q = vgi ml 2 (fun v => vc xs zH_145 n true d 145 43 ml (.int v :: st) t Q) := by
  rw [vc_q (o := (1, 0, 2, 0, [])) (by decide +kernel)]; rfl
theorem v_145_43 (xs : Option (List Int32)) (n : Nat) (b : Bool) (d : Nat) (ml : List Value) (t : T) (Q : Option Value → T → Prop) (st : List Value) : vc xs zH_145 (n + 1) b d 145 43 ml st t Q = vgi ml 3 (fun v => vc xs zH_145 n true d 145 44 ml (.int v :: st) t Q) := by
  rw [vc_q (o := (1, 0, 3, 0, [])) (by decide +kernel)]; rfl
theorem v_145_44 (xs : Option (List Int32)) (n : Nat) (b : Bool) (d : Nat) (ml : List Value) (t : T) (Q : Option Value → T → Prop) (st : List Value) : vc xs zH_145 (n + 1) b d 145 44 ml st t Q = (st.all zc1 = true ∧ vtk 4 st [] (fun as rest => rest.length ≤ 8 ∧ vrc as 4 (twc d 162 as t (fun r t' => vc xs zH_145 n true d 145 47 ml (r.toList ++ rest) t' Q)))) := by
  rw [vc_q (o := (36, 0, 162, 3, [(0, 4)])) (by decide +kernel)]; rfl
theorem v_145_47 (xs : Option (List Int32)) (n : Nat) (b : Bool) (d : Nat) (ml : List Value) (t : T) (Q : Option Value → T → Prop) (v : Int32) (r : List Value) : vc xs zH_145 (n + 1) b d 145 47 ml (.int v :: r) t Q = vset ml 6 (.int v) (fun l => vc xs zH_145 n true d 145 49 l r t Q) := by
  rw [vc_q (o := (3, 0, 6, 1, [])) (by decide +kernel)]; rfl
theorem v_145_49 (xs : Option (List Int32)) (n : Nat) (b : Bool) (d : Nat) (ml : List Value) (t : T) (Q : Option Value → T → Prop) (st : List Value) : vc xs zH_145 (n + 1) b d 145 49 ml st t Q = vga ml 1 (fun v => vc xs zH_145 n true d 145 50 ml (.ref v :: st) t Q) := by
  rw [vc_q (o := (2, 0, 1, 0, [])) (by decide +kernel)]; rfl
theorem v_145_50 (xs : Option (List Int32)) (n : Nat) (b : Bool) (d : Nat) (ml : List Value) (t : T) (Q : Option Value → T → Prop) (st : List Value) : vc xs zH_145 (n + 1) b d 145 50 ml st t Q = vgi ml 5 (fun v => vc xs zH_145 n true d 145 52 ml (.int v :: st) t Q) := by
  rw [vc_q (o := (1, 0, 5, 1, [])) (by decide +kernel)]; rfl
theorem v_145_52 (xs : Option (List Int32)) (n : Nat) (b : Bool) (d : Nat) (ml : List Value) (t : T) (Q : Option Value → T → Prop) (st : List Value) : vc xs zH_145 (n + 1) b d 145 52 ml st t Q = vga ml 0 (fun v => vc xs zH_145 n true d 145 53 ml (.ref v :: st) t Q) := by
  rw [vc_q (o := (2, 0, 0, 0, [])) (by decide +kernel)]; rfl
theorem v_145_53 (xs : Option (List Int32)) (n : Nat) (b : Bool) (d : Nat) (ml : List Value) (t : T) (Q : Option Value → T → Prop) (u : Nat) (r : List Value) : vc xs zH_145 (n + 1) b d 145 53 ml (.ref u :: r) t Q = (vtag u = 9 ∧ vc xs zH_145 n true d 145 56 ml (.ref (tref t u 3) :: r) t Q) := by
  rw [vc_q (o := (25, 0, 9, 3, [])) (by decide +kernel)]; rfl
theorem v_145_56 (xs : Option (List Int32)) (n : Nat) (b : Bool) (d : Nat) (ml : List Value) (t : T) (Q : Option Value → T → Prop) (st : List Value) : vc xs zH_145 (n + 1) b d 145 56 ml st t Q = vgi ml 2 (fun v => vc xs zH_145 n true d 145 57 ml (.int v :: st) t Q) := by
  rw [vc_q (o := (1, 0, 2, 0, [])) (by decide +kernel)]; rfl
theorem v_145_57 (xs : Option (List Int32)) (n : Nat) (b : Bool) (d : Nat) (ml : List Value) (t : T) (Q : Option Value → T → Prop) (v : Int32) (u : Nat) (r : List Value) : vc xs zH_145 (n + 1) b d 145 57 ml (.int v :: .ref u :: r) t Q = (vtag u = 100 ∧ vinb v (vlen u) ∧ vc xs zH_145 n true d 145 58 ml (.int (t.1 u v.toNatClampNeg) :: r) t Q) := by
  rw [vc_q (o := (29, 0, 0, 0, [])) (by decide +kernel)]; rfl
theorem v_145_58 (xs : Option (List Int32)) (n : Nat) (b : Bool) (d : Nat) (ml : List Value) (t : T) (Q : Option Value → T → Prop) (st : List Value) : vc xs zH_145 (n + 1) b d 145 58 ml st t Q = vga ml 0 (fun v => vc xs zH_145 n true d 145 59 ml (.ref v :: st) t Q) := by
  rw [vc_q (o := (2, 0, 0, 0, [])) (by decide +kernel)]; rfl
theorem v_145_59 (xs : Option (List Int32)) (n : Nat) (b : Bool) (d : Nat) (ml : List Value) (t : T) (Q : Option Value → T → Prop) (u : Nat) (r : List Value) : vc xs zH_145 (n + 1) b d 145 59 ml (.ref u :: r) t Q = (vtag u = 9 ∧ vc xs zH_145 n true d 145 62 ml (.ref (tref t u 3) :: r) t Q) := by
  rw [vc_q (o := (25, 0, 9, 3, [])) (by decide +kernel)]; rfl
theorem v_145_62 (xs : Option (List Int32)) (n : Nat) (b : Bool) (d : Nat) (ml : List Value) (t : T) (Q : Option Value → T → Prop) (st : List Value) : vc xs zH_145 (n + 1) b d 145 62 ml st t Q = vgi ml 3 (fun v => vc xs zH_145 n true d 145 63 ml (.int v :: st) t Q) := by
  rw [vc_q (o := (1, 0, 3, 0, [])) (by decide +kernel)]; rfl
theorem v_145_63 (xs : Option (List Int32)) (n : Nat) (b : Bool) (d : Nat) (ml : List Value) (t : T) (Q : Option Value → T → Prop) (v : Int32) (u : Nat) (r : List Value) : vc xs zH_145 (n + 1) b d 145 63 ml (.int v :: .ref u :: r) t Q = (vtag u = 100 ∧ vinb v (vlen u) ∧ vc xs zH_145 n true d 145 64 ml (.int (t.1 u v.toNatClampNeg) :: r) t Q) := by
  rw [vc_q (o := (29, 0, 0, 0, [])) (by decide +kernel)]; rfl
theorem v_145_64 (xs : Option (List Int32)) (n : Nat) (b : Bool) (d : Nat) (ml : List Value) (t : T) (Q : Option Value → T → Prop) (st : List Value) : vc xs zH_145 (n + 1) b d 145 64 ml st t Q = vgi ml 4 (fun v => vc xs zH_145 n true d 145 66 ml (.int v :: st) t Q) := by
  rw [vc_q (o := (1, 0, 4, 1, [])) (by decide +kernel)]; rfl
theorem v_145_66 (xs : Option (List Int32)) (n : Nat) (b : Bool) (d : Nat) (ml : List Value) (t : T) (Q : Option Value → T → Prop) (u : Int32) (r : List Value) : vc xs zH_145 (n + 1) b d 145 66 ml (.int u :: r) t Q = (if u = 0 then vc xs zH_145 n true d 145 74 ml r t Q else vc xs zH_145 n true d 145 69 ml r t Q) := by
  rw [vc_q (o := (21, 0, 74, 0, [])) (by decide +kernel)]; rfl
theorem v_145_69 (xs : Option (List Int32)) (n : Nat) (b : Bool) (d : Nat) (ml : List Value) (t : T) (Q : Option Value → T → Prop) (st : List Value) : vc xs zH_145 (n + 1) b d 145 69 ml st t Q = vgi ml 6 (fun v => vc xs zH_145 n true d 145 71 ml (.int v :: st) t Q) := by
  rw [vc_q (o := (1, 0, 6, 1, [])) (by decide +kernel)]; rfl
theorem v_145_71 (xs : Option (List Int32)) (n : Nat) (b : Bool) (d : Nat) (ml : List Value) (t : T) (Q : Option Value → T → Prop) (st : List Value) : vc xs zH_145 (n + 1) b d 145 71 ml st t Q = vc xs zH_145 n true d 145 97 ml st t Q := by
  rw [vc_q (o := (22, 0, 97, 0, [])) (by decide +kernel)]; rfl
theorem v_145_74 (xs : Option (List Int32)) (n : Nat) (b : Bool) (d : Nat) (ml : List Value) (t : T) (Q : Option Value → T → Prop) (st : List Value) : vc xs zH_145 (n + 1) b d 145 74 ml st t Q = vga ml 1 (fun v => vc xs zH_145 n true d 145 75 ml (.ref v :: st) t Q) := by
  rw [vc_q (o := (2, 0, 1, 0, [])) (by decide +kernel)]; rfl
theorem v_145_75 (xs : Option (List Int32)) (n : Nat) (b : Bool) (d : Nat) (ml : List Value) (t : T) (Q : Option Value → T → Prop) (st : List Value) : vc xs zH_145 (n + 1) b d 145 75 ml st t Q = vgi ml 5 (fun v => vc xs zH_145 n true d 145 77 ml (.int v :: st) t Q) := by
  rw [vc_q (o := (1, 0, 5, 1, [])) (by decide +kernel)]; rfl
theorem v_145_77 (xs : Option (List Int32)) (n : Nat) (b : Bool) (d : Nat) (ml : List Value) (t : T) (Q : Option Value → T → Prop) (st : List Value) : vc xs zH_145 (n + 1) b d 145 77 ml st t Q = vga ml 0 (fun v => vc xs zH_145 n true d 145 78 ml (.ref v :: st) t Q) := by
  rw [vc_q (o := (2, 0, 0, 0, [])) (by decide +kernel)]; rfl
theorem v_145_78 (xs : Option (List Int32)) (n : Nat) (b : Bool) (d : Nat) (ml : List Value) (t : T) (Q : Option Value → T → Prop) (u : Nat) (r : List Value) : vc xs zH_145 (n + 1) b d 145 78 ml (.ref u :: r) t Q = (vtag u = 9 ∧ vc xs zH_145 n true d 145 81 ml (.ref (tref t u 3) :: r) t Q) := by
  rw [vc_q (o := (25, 0, 9, 3, [])) (by decide +kernel)]; rfl
theorem v_145_81 (xs : Option (List Int32)) (n : Nat) (b : Bool) (d : Nat) (ml : List Value) (t : T) (Q : Option Value → T → Prop) (st : List Value) : vc xs zH_145 (n + 1) b d 145 81 ml st t Q = vgi ml 2 (fun v => vc xs zH_145 n true d 145 82 ml (.int v :: st) t Q) := by
  rw [vc_q (o := (1, 0, 2, 0, [])) (by decide +kernel)]; rfl
theorem v_145_82 (xs : Option (List Int32)) (n : Nat) (b : Bool) (d : Nat) (ml : List Value) (t : T) (Q : Option Value → T → Prop) (v : Int32) (u : Nat) (r : List Value) : vc xs zH_145 (n + 1) b d 145 82 ml (.int v :: .ref u :: r) t Q = (vtag u = 100 ∧ vinb v (vlen u) ∧ vc xs zH_145 n true d 145 83 ml (.int (t.1 u v.toNatClampNeg) :: r) t Q) := by
  rw [vc_q (o := (29, 0, 0, 0, [])) (by decide +kernel)]; rfl
theorem v_145_83 (xs : Option (List Int32)) (n : Nat) (b : Bool) (d : Nat) (ml : List Value) (t : T) (Q : Option Value → T → Prop) (st : List Value) : vc xs zH_145 (n + 1) b d 145 83 ml st t Q = vga ml 0 (fun v => vc xs zH_145 n true d 145 84 ml (.ref v :: st) t Q) := by
  rw [vc_q (o := (2, 0, 0, 0, [])) (by decide +kernel)]; rfl
theorem v_145_84 (xs : Option (List Int32)) (n : Nat) (b : Bool) (d : Nat) (ml : List Value) (t : T) (Q : Option Value → T → Prop) (u : Nat) (r : List Value) : vc xs zH_145 (n + 1) b d 145 84 ml (.ref u :: r) t Q = (vtag u = 9 ∧ vc xs zH_145 n true d 145 87 ml (.ref (tref t u 3) :: r) t Q) := by
  rw [vc_q (o := (25, 0, 9, 3, [])) (by decide +kernel)]; rfl
theorem v_145_87 (xs : Option (List Int32)) (n : Nat) (b : Bool) (d : Nat) (ml : List Value) (t : T) (Q : Option Value → T → Prop) (st : List Value) : vc xs zH_145 (n + 1) b d 145 87 ml st t Q = vgi ml 3 (fun v => vc xs zH_145 n true d 145 88 ml (.int v :: st) t Q) := by
  rw [vc_q (o := (1, 0, 3, 0, [])) (by decide +kernel)]; rfl
theorem v_145_88 (xs : Option (List Int32)) (n : Nat) (b : Bool) (d : Nat) (ml : List Value) (t : T) (Q : Option Value → T → Prop) (v : Int32) (u : Nat) (r : List Value) : vc xs zH_145 (n + 1) b d 145 88 ml (.int v :: .ref u :: r) t Q = (vtag u = 100 ∧ vinb v (vlen u) ∧ vc xs zH_145 n true d 145 89 ml (.int (t.1 u v.toNatClampNeg) :: r) t Q) := by
  rw [vc_q (o := (29, 0, 0, 0, [])) (by decide +kernel)]; rfl
theorem v_145_89 (xs : Option (List Int32)) (n : Nat) (b : Bool) (d : Nat) (ml : List Value) (t : T) (Q : Option Value → T → Prop) (st : List Value) : vc xs zH_145 (n + 1) b d 145 89 ml st t Q = (st.all zc1 = true ∧ vtk 4 st [] (fun as rest => rest.length ≤ 8 ∧ vrc as 4 (twc d 162 as t (fun r t' => vc xs zH_145 n true d 145 92 ml (r.toList ++ rest) t' Q)))) := by
  rw [vc_q (o := (36, 0, 162, 3, [(0, 4)])) (by decide +kernel)]; rfl
theorem v_145_92 (xs : Option (List Int32)) (n : Nat) (b : Bool) (d : Nat) (ml : List Value) (t : T) (Q : Option Value → T → Prop) (st : List Value) : vc xs zH_145 (n + 1) b d 145 92 ml st t Q = vgi ml 6 (fun v => vc xs zH_145 n true d 145 94 ml (.int v :: st) t Q) := by
  rw [vc_q (o := (1, 0, 6, 1, [])) (by decide +kernel)]; rfl
theorem v_145_94 (xs : Option (List Int32)) (n : Nat) (b : Bool) (d : Nat) (ml : List Value) (t : T) (Q : Option Value → T → Prop) (st : List Value) : vc xs zH_145 (n + 1) b d 145 94 ml st t Q = (st.all zc1 = true ∧ vtk 2 st [] (fun as rest => rest.length ≤ 8 ∧ twc d 23 as t (fun r t' => vc xs zH_145 n true d 145 97 ml (r.toList ++ rest) t' Q))) := by
  rw [vc_q (o := (37, 0, 23, 2, [])) (by decide +kernel)]; rfl
theorem v_145_97 (xs : Option (List Int32)) (n : Nat) (b : Bool) (d : Nat) (ml : List Value) (t : T) (Q : Option Value → T → Prop) (st : List Value) : vc xs zH_145 (n + 1) b d 145 97 ml st t Q = (st.all zc1 = true ∧ vtk 5 st [] (fun as rest => rest.length ≤ 8 ∧ vrc as 4 (twc d 163 as t (fun r t' => vc xs zH_145 n true d 145 100 ml (r.toList ++ rest) t' Q)))) := by
  rw [vc_q (o := (36, 0, 163, 4, [(0, 4)])) (by decide +kernel)]; rfl
theorem v_145_100 (xs : Option (List Int32)) (n : Nat) (b : Bool) (d : Nat) (ml : List Value) (t : T) (Q : Option Value → T → Prop) (st : List Value) : vc xs zH_145 (n + 1) b d 145 100 ml st t Q = vgi ml 5 (fun v => vset ml 5 (.int (v + 1)) (fun l => vc xs zH_145 n true d 145 103 l st t Q)) := by
  rw [vc_q (o := (5, 1, 5, 0, [])) (by decide +kernel)]; rfl
theorem v_145_103 (xs : Option (List Int32)) (n : Nat) (b : Bool) (d : Nat) (ml : List Value) (t : T) (Q : Option Value → T → Prop) (st : List Value) : vc xs zH_145 (n + 1) b d 145 103 ml st t Q = vc xs zH_145 n true d 145 29 ml st t Q := by
  rw [vc_q (o := (22, 0, 29, 0, [])) (by decide +kernel)]; rfl
theorem v_145_106 (xs : Option (List Int32)) (n : Nat) (b : Bool) (d : Nat) (ml : List Value) (t : T) (Q : Option Value → T → Prop)  : vc xs zH_145 (n + 1) b d 145 106 ml [] t Q = Q none t := by
  rw [vc_q (o := (43, 0, 0, 0, [])) (by decide +kernel)]; rfl
def zH_147 : List Nat := [41]
theorem v_147_0 (xs : Option (List Int32)) (n : Nat) (b : Bool) (d : Nat) (ml : List Value) (t : T) (Q : Option Value → T → Prop) (st : List Value) : vc xs zH_147 (n + 1) b d 147 0 ml st t Q = vga ml 0 (fun v => vc xs zH_147 n true d 147 1 ml (.ref v :: st) t Q) := by
  rw [vc_q (o := (2, 0, 0, 0, [])) (by decide +kernel)]; rfl
theorem v_147_1 (xs : Option (List Int32)) (n : Nat) (b : Bool) (d : Nat) (ml : List Value) (t : T) (Q : Option Value → T → Prop) (u : Nat) (r : List Value) : vc xs zH_147 (n + 1) b d 147 1 ml (.ref u :: r) t Q = (vtag u = 7 ∧ vc xs zH_147 n true d 147 4 ml (.ref (tref t u 3) :: r) t Q) := by
  rw [vc_q (o := (25, 0, 7, 3, [])) (by decide +kernel)]; rfl
theorem v_147_4 (xs : Option (List Int32)) (n : Nat) (b : Bool) (d : Nat) (ml : List Value) (t : T) (Q : Option Value → T → Prop) (st : List Value) : vc xs zH_147 (n + 1) b d 147 4 ml st t Q = vc xs zH_147 n true d 147 5 ml (.int 0 :: st) t Q := by
  rw [vc_q (o := (0, 0, 0, 0, [])) (by decide +kernel)]; rfl
theorem v_147_5 (xs : Option (List Int32)) (n : Nat) (b : Bool) (d : Nat) (ml : List Value) (t : T) (Q : Option Value → T → Prop) (v : Int32) (u : Nat) (r : List Value) : vc xs zH_147 (n + 1) b d 147 5 ml (.int v :: .ref u :: r) t Q = (vtag u = 8 ∧ vc xs zH_147 n true d 147 8 ml r (tsi t u 1 v) Q) := by
  rw [vc_q (o := (26, 0, 8, 1, [])) (by decide +kernel)]; rfl
theorem v_147_8 (xs : Option (List Int32)) (n : Nat) (b : Bool) (d : Nat) (ml : List Value) (t : T) (Q : Option Value → T → Prop) (st : List Value) : vc xs zH_147 (n + 1) b d 147 8 ml st t Q = vga ml 0 (fun v => vc xs zH_147 n true d 147 9 ml (.ref v :: st) t Q) := by
  rw [vc_q (o := (2, 0, 0, 0, [])) (by decide +kernel)]; rfl
theorem v_147_9 (xs : Option (List Int32)) (n : Nat) (b : Bool) (d : Nat) (ml : List Value) (t : T) (Q : Option Value → T → Prop) (u : Nat) (r : List Value) : vc xs zH_147 (n + 1) b d 147 9 ml (.ref u :: r) t Q = (vtag u = 7 ∧ vc xs zH_147 n true d 147 12 ml (.ref (tref t u 3) :: r) t Q) := by
  rw [vc_q (o := (25, 0, 7, 3, [])) (by decide +kernel)]; rfl
theorem v_147_12 (xs : Option (List Int32)) (n : Nat) (b : Bool) (d : Nat) (ml : List Value) (t : T) (Q : Option Value → T → Prop) (st : List Value) : vc xs zH_147 (n + 1) b d 147 12 ml st t Q = vga ml 2 (fun v => vc xs zH_147 n true d 147 13 ml (.ref v :: st) t Q) := by
  rw [vc_q (o := (2, 0, 2, 0, [])) (by decide +kernel)]; rfl
theorem v_147_13 (xs : Option (List Int32)) (n : Nat) (b : Bool) (d : Nat) (ml : List Value) (t : T) (Q : Option Value → T → Prop) (st : List Value) : vc xs zH_147 (n + 1) b d 147 13 ml st t Q = (st.all zc1 = true ∧ vtk 2 st [] (fun as rest => rest.length ≤ 8 ∧ vrc as 8 (twc d 106 as t (fun r t' => vc xs zH_147 n true d 147 16 ml (r.toList ++ rest) t' Q)))) := by
  rw [vc_q (o := (36, 0, 106, 1, [(0, 8)])) (by decide +kernel)]; rfl
theorem v_147_16_int (xs : Option (List Int32)) (n : Nat) (b : Bool) (d : Nat) (ml : List Value) (t : T) (Q : Option Value → T → Prop) (v : Int32) (r : List Value) : vc xs zH_147 (n + 1) b d 147 16 ml (.int v :: r) t Q = vc xs zH_147 n true d 147 17 ml r t Q := by
  rw [vc_q (o := (19, 0, 0, 0, [])) (by decide +kernel)]; rfl
theorem v_147_16_ref (xs : Option (List Int32)) (n : Nat) (b : Bool) (d : Nat) (ml : List Value) (t : T) (Q : Option Value → T → Prop) (v : Nat) (r : List Value) : vc xs zH_147 (n + 1) b d 147 16 ml (.ref v :: r) t Q = vc xs zH_147 n true d 147 17 ml r t Q := by
  rw [vc_q (o := (19, 0, 0, 0, [])) (by decide +kernel)]; rfl
theorem v_147_17 (xs : Option (List Int32)) (n : Nat) (b : Bool) (d : Nat) (ml : List Value) (t : T) (Q : Option Value → T → Prop) (st : List Value) : vc xs zH_147 (n + 1) b d 147 17 ml st t Q = vga ml 1 (fun v => vc xs zH_147 n true d 147 18 ml (.ref v :: st) t Q) := by
  rw [vc_q (o := (2, 0, 1, 0, [])) (by decide +kernel)]; rfl
theorem v_147_18 (xs : Option (List Int32)) (n : Nat) (b : Bool) (d : Nat) (ml : List Value) (t : T) (Q : Option Value → T → Prop) (u : Nat) (r : List Value) : vc xs zH_147 (n + 1) b d 147 18 ml (.ref u :: r) t Q = (vtag u = 11 ∧ vc xs zH_147 n true d 147 21 ml (.int (t.1 u 2) :: r) t Q) := by
  rw [vc_q (o := (24, 0, 11, 2, [])) (by decide +kernel)]; rfl
theorem v_147_21 (xs : Option (List Int32)) (n : Nat) (b : Bool) (d : Nat) (ml : List Value) (t : T) (Q : Option Value → T → Prop) (st : List Value) : vc xs zH_147 (n + 1) b d 147 21 ml st t Q = vc xs zH_147 n true d 147 23 ml (.int 15 :: st) t Q := by
  rw [vc_q (o := (0, 15, 1, 0, [])) (by decide +kernel)]; rfl
theorem v_147_23 (xs : Option (List Int32)) (n : Nat) (b : Bool) (d : Nat) (ml : List Value) (t : T) (Q : Option Value → T → Prop) (u v : Int32) (r : List Value) : vc xs zH_147 (n + 1) b d 147 23 ml (.int v :: .int u :: r) t Q = (if u = v then vc xs zH_147 n true d 147 36 ml r t Q else vc xs zH_147 n true d 147 26 ml r t Q) := by
  rw [vc_q (o := (20, 0, 36, 0, [])) (by decide +kernel)]; rfl
theorem v_147_26 (xs : Option (List Int32)) (n : Nat) (b : Bool) (d : Nat) (ml : List Value) (t : T) (Q : Option Value → T → Prop) (st : List Value) : vc xs zH_147 (n + 1) b d 147 26 ml st t Q = vga ml 0 (fun v => vc xs zH_147 n true d 147 27 ml (.ref v :: st) t Q) := by
  rw [vc_q (o := (2, 0, 0, 0, [])) (by decide +kernel)]; rfl
theorem v_147_27 (xs : Option (List Int32)) (n : Nat) (b : Bool) (d : Nat) (ml : List Value) (t : T) (Q : Option Value → T → Prop) (st : List Value) : vc xs zH_147 (n + 1) b d 147 27 ml st t Q = vga ml 1 (fun v => vc xs zH_147 n true d 147 28 ml (.ref v :: st) t Q) := by
  rw [vc_q (o := (2, 0, 1, 0, [])) (by decide +kernel)]; rfl
theorem v_147_28 (xs : Option (List Int32)) (n : Nat) (b : Bool) (d : Nat) (ml : List Value) (t : T) (Q : Option Value → T → Prop) (st : List Value) : vc xs zH_147 (n + 1) b d 147 28 ml st t Q = (st.all zc1 = true ∧ vtk 2 st [] (fun as rest => rest.length ≤ 8 ∧ vrc as 7 (twc d 148 as t (fun r t' => vc xs zH_147 n true d 147 31 ml (r.toList ++ rest) t' Q)))) := by
  rw [vc_q (o := (36, 0, 148, 1, [(0, 7)])) (by decide +kernel)]; rfl
theorem v_147_31 (xs : Option (List Int32)) (n : Nat) (b : Bool) (d : Nat) (ml : List Value) (t : T) (Q : Option Value → T → Prop) (u : Int32) (r : List Value) : vc xs zH_147 (n + 1) b d 147 31 ml (.int u :: r) t Q = (if u = 0 then vc xs zH_147 n true d 147 34 ml r t Q else vc xs zH_147 n true d 147 36 ml r t Q) := by
  rw [vc_q (o := (21, 0, 36, 1, [])) (by decide +kernel)]; rfl
theorem v_147_34 (xs : Option (List Int32)) (n : Nat) (b : Bool) (d : Nat) (ml : List Value) (t : T) (Q : Option Value → T → Prop) (st : List Value) : vc xs zH_147 (n + 1) b d 147 34 ml st t Q = vc xs zH_147 n true d 147 35 ml (.int 0 :: st) t Q := by
  rw [vc_q (o := (0, 0, 0, 0, [])) (by decide +kernel)]; rfl
theorem v_147_35 (xs : Option (List Int32)) (n : Nat) (b : Bool) (d : Nat) (ml : List Value) (t : T) (Q : Option Value → T → Prop) (v : Int32) : vc xs zH_147 (n + 1) b d 147 35 ml [.int v] t Q = ((v = 0 ∨ v = 1) ∧ Q (some (.int v)) t) := by
  rw [vc_q (o := (41, 0, 0, 0, [])) (by decide +kernel)]; rfl
theorem v_147_36 (xs : Option (List Int32)) (n : Nat) (b : Bool) (d : Nat) (ml : List Value) (t : T) (Q : Option Value → T → Prop) (st : List Value) : vc xs zH_147 (n + 1) b d 147 36 ml st t Q = vc xs zH_147 n true d 147 37 ml (.int 0 :: st) t Q := by
  rw [vc_q (o := (0, 0, 0, 0, [])) (by decide +kernel)]; rfl
theorem v_147_37 (xs : Option (List Int32)) (n : Nat) (b : Bool) (d : Nat) (ml : List Value) (t : T) (Q : Option Value → T → Prop) (v : Int32) (r : List Value) : vc xs zH_147 (n + 1) b d 147 37 ml (.int v :: r) t Q = vset ml 3 (.int v) (fun l => vc xs zH_147 n true d 147 38 l r t Q) := by
  rw [vc_q (o := (3, 0, 3, 0, [])) (by decide +kernel)]; rfl
theorem v_147_38 (xs : Option (List Int32)) (n : Nat) (b : Bool) (d : Nat) (ml : List Value) (t : T) (Q : Option Value → T → Prop) (st : List Value) : vc xs zH_147 (n + 1) b d 147 38 ml st t Q = vc xs zH_147 n true d 147 39 ml (.int 0 :: st) t Q := by
  rw [vc_q (o := (0, 0, 0, 0, [])) (by decide +kernel)]; rfl
theorem v_147_39 (xs : Option (List Int32)) (n : Nat) (b : Bool) (d : Nat) (ml : List Value) (t : T) (Q : Option Value → T → Prop) (v : Int32) (r : List Value) : vc xs zH_147 (n + 1) b d 147 39 ml (.int v :: r) t Q = vset ml 4 (.int v) (fun l => vc xs zH_147 n true d 147 41 l r t Q) := by
  rw [vc_q (o := (3, 0, 4, 1, [])) (by decide +kernel)]; rfl
theorem v_147_41 (xs : Option (List Int32)) (n : Nat) (d : Nat) (ml : List Value) (t : T) (Q : Option Value → T → Prop) (st : List Value) : vc xs zH_147 (n + 1) false d 147 41 ml st t Q = vgi ml 4 (fun v => vc xs zH_147 n true d 147 43 ml (.int v :: st) t Q) := by
  rw [vc_q (o := (1, 0, 4, 1, [])) (by decide +kernel)]; rfl
theorem h_147_41 (xs : Option (List Int32)) (n d : Nat) (ml st : List Value) (t : T) (Q : Option Value → T → Prop) : vc xs zH_147 (n + 1) true d 147 41 ml st t Q = twp xs d 147 41 ml st t Q := id rfl
theorem v_147_43 (xs : Option (List Int32)) (n : Nat) (b : Bool) (d : Nat) (ml : List Value) (t : T) (Q : Option Value → T → Prop) (st : List Value) : vc xs zH_147 (n + 1) b d 147 43 ml st t Q = vga ml 0 (fun v => vc xs zH_147 n true d 147 44 ml (.ref v :: st) t Q) := by
  rw [vc_q (o := (2, 0, 0, 0, [])) (by decide +kernel)]; rfl
theorem v_147_44 (xs : Option (List Int32)) (n : Nat) (b : Bool) (d : Nat) (ml : List Value) (t : T) (Q : Option Value → T → Prop) (u : Nat) (r : List Value) : vc xs zH_147 (n + 1) b d 147 44 ml (.ref u :: r) t Q = (vtag u = 7 ∧ vc xs zH_147 n true d 147 47 ml (.ref (tref t u 3) :: r) t Q) := by
  rw [vc_q (o := (25, 0, 7, 3, [])) (by decide +kernel)]; rfl
theorem v_147_47 (xs : Option (List Int32)) (n : Nat) (b : Bool) (d : Nat) (ml : List Value) (t : T) (Q : Option Value → T → Prop) (u : Nat) (r : List Value) : vc xs zH_147 (n + 1) b d 147 47 ml (.ref u :: r) t Q = (vtag u = 8 ∧ vc xs zH_147 n true d 147 50 ml (.int (t.1 u 1) :: r) t Q) := by
  rw [vc_q (o := (24, 0, 8, 1, [])) (by decide +kernel)]; rfl
theorem v_147_50 (xs : Option (List Int32)) (n : Nat) (b : Bool) (d : Nat) (ml : List Value) (t : T) (Q : Option Value → T → Prop) (u v : Int32) (r : List Value) : vc xs zH_147 (n + 1) b d 147 50 ml (.int v :: .int u :: r) t Q = (if u < v then vc xs zH_147 n true d 147 53 ml r t Q else vc xs zH_147 n true d 147 140 ml r t Q) := by
  rw [vc_q (o := (20, 0, 140, 3, [])) (by decide +kernel)]; rfl
theorem v_147_53 (xs : Option (List Int32)) (n : Nat) (b : Bool) (d : Nat) (ml : List Value) (t : T) (Q : Option Value → T → Prop) (st : List Value) : vc xs zH_147 (n + 1) b d 147 53 ml st t Q = vga ml 0 (fun v => vc xs zH_147 n true d 147 54 ml (.ref v :: st) t Q) := by
  rw [vc_q (o := (2, 0, 0, 0, [])) (by decide +kernel)]; rfl
theorem v_147_54 (xs : Option (List Int32)) (n : Nat) (b : Bool) (d : Nat) (ml : List Value) (t : T) (Q : Option Value → T → Prop) (u : Nat) (r : List Value) : vc xs zH_147 (n + 1) b d 147 54 ml (.ref u :: r) t Q = (vtag u = 7 ∧ vc xs zH_147 n true d 147 57 ml (.ref (tref t u 3) :: r) t Q) := by
  rw [vc_q (o := (25, 0, 7, 3, [])) (by decide +kernel)]; rfl
theorem v_147_57 (xs : Option (List Int32)) (n : Nat) (b : Bool) (d : Nat) (ml : List Value) (t : T) (Q : Option Value → T → Prop) (u : Nat) (r : List Value) : vc xs zH_147 (n + 1) b d 147 57 ml (.ref u :: r) t Q = (vtag u = 8 ∧ vc xs zH_147 n true d 147 60 ml (.ref (tref t u 0) :: r) t Q) := by
  rw [vc_q (o := (25, 0, 8, 0, [])) (by decide +kernel)]; rfl
theorem v_147_60 (xs : Option (List Int32)) (n : Nat) (b : Bool) (d : Nat) (ml : List Value) (t : T) (Q : Option Value → T → Prop) (st : List Value) : vc xs zH_147 (n + 1) b d 147 60 ml st t Q = vgi ml 4 (fun v => vc xs zH_147 n true d 147 62 ml (.int v :: st) t Q) := by
  rw [vc_q (o := (1, 0, 4, 1, [])) (by decide +kernel)]; rfl
theorem v_147_62 (xs : Option (List Int32)) (n : Nat) (b : Bool) (d : Nat) (ml : List Value) (t : T) (Q : Option Value → T → Prop) (v : Int32) (u : Nat) (r : List Value) : vc xs zH_147 (n + 1) b d 147 62 ml (.int v :: .ref u :: r) t Q = (103 ≤ vtag u ∧ vtag u < 108 ∧ vinb v (vlen u) ∧ vc xs zH_147 n true d 147 63 ml (.ref (tref t u v.toNatClampNeg) :: r) t Q) := by
  rw [vc_q (o := (31, 0, 0, 0, [])) (by decide +kernel)]; rfl
theorem v_147_63 (xs : Option (List Int32)) (n : Nat) (b : Bool) (d : Nat) (ml : List Value) (t : T) (Q : Option Value → T → Prop) (v : Nat) (r : List Value) : vc xs zH_147 (n + 1) b d 147 63 ml (.ref v :: r) t Q = vset ml 5 (.ref v) (fun l => vc xs zH_147 n true d 147 65 l r t Q) := by
  rw [vc_q (o := (4, 0, 5, 1, [])) (by decide +kernel)]; rfl
theorem v_147_65 (xs : Option (List Int32)) (n : Nat) (b : Bool) (d : Nat) (ml : List Value) (t : T) (Q : Option Value → T → Prop) (st : List Value) : vc xs zH_147 (n + 1) b d 147 65 ml st t Q = vga ml 0 (fun v => vc xs zH_147 n true d 147 66 ml (.ref v :: st) t Q) := by
  rw [vc_q (o := (2, 0, 0, 0, [])) (by decide +kernel)]; rfl
theorem v_147_66 (xs : Option (List Int32)) (n : Nat) (b : Bool) (d : Nat) (ml : List Value) (t : T) (Q : Option Value → T → Prop) (u : Nat) (r : List Value) : vc xs zH_147 (n + 1) b d 147 66 ml (.ref u :: r) t Q = (vtag u = 7 ∧ vc xs zH_147 n true d 147 69 ml (.ref (tref t u 0) :: r) t Q) := by
  rw [vc_q (o := (25, 0, 7, 0, [])) (by decide +kernel)]; rfl
theorem v_147_69 (xs : Option (List Int32)) (n : Nat) (b : Bool) (d : Nat) (ml : List Value) (t : T) (Q : Option Value → T → Prop) (st : List Value) : vc xs zH_147 (n + 1) b d 147 69 ml st t Q = vga ml 5 (fun v => vc xs zH_147 n true d 147 71 ml (.ref v :: st) t Q) := by
  rw [vc_q (o := (2, 0, 5, 1, [])) (by decide +kernel)]; rfl
theorem v_147_71 (xs : Option (List Int32)) (n : Nat) (b : Bool) (d : Nat) (ml : List Value) (t : T) (Q : Option Value → T → Prop) (st : List Value) : vc xs zH_147 (n + 1) b d 147 71 ml st t Q = vga ml 1 (fun v => vc xs zH_147 n true d 147 72 ml (.ref v :: st) t Q) := by
  rw [vc_q (o := (2, 0, 1, 0, [])) (by decide +kernel)]; rfl
theorem v_147_72 (xs : Option (List Int32)) (n : Nat) (b : Bool) (d : Nat) (ml : List Value) (t : T) (Q : Option Value → T → Prop) (u : Nat) (r : List Value) : vc xs zH_147 (n + 1) b d 147 72 ml (.ref u :: r) t Q = (vtag u = 11 ∧ vc xs zH_147 n true d 147 75 ml (.int (t.1 u 5) :: r) t Q) := by
  rw [vc_q (o := (24, 0, 11, 5, [])) (by decide +kernel)]; rfl
theorem v_147_75 (xs : Option (List Int32)) (n : Nat) (b : Bool) (d : Nat) (ml : List Value) (t : T) (Q : Option Value → T → Prop) (st : List Value) : vc xs zH_147 (n + 1) b d 147 75 ml st t Q = vc xs zH_147 n true d 147 76 ml (.int 0 :: st) t Q := by
  rw [vc_q (o := (0, 0, 0, 0, [])) (by decide +kernel)]; rfl
theorem v_147_76 (xs : Option (List Int32)) (n : Nat) (b : Bool) (d : Nat) (ml : List Value) (t : T) (Q : Option Value → T → Prop) (st : List Value) : vc xs zH_147 (n + 1) b d 147 76 ml st t Q = vc xs zH_147 n true d 147 77 ml (.int 0 :: st) t Q := by
  rw [vc_q (o := (0, 0, 0, 0, [])) (by decide +kernel)]; rfl
theorem v_147_77 (xs : Option (List Int32)) (n : Nat) (b : Bool) (d : Nat) (ml : List Value) (t : T) (Q : Option Value → T → Prop) (st : List Value) : vc xs zH_147 (n + 1) b d 147 77 ml st t Q = (st.all zc1 = true ∧ vtk 5 st [] (fun as rest => rest.length ≤ 8 ∧ vrc as 3 (twc d 122 as t (fun r t' => vc xs zH_147 n true d 147 80 ml (r.toList ++ rest) t' Q)))) := by
  rw [vc_q (o := (36, 0, 122, 4, [(0, 3)])) (by decide +kernel)]; rfl
theorem v_147_80 (xs : Option (List Int32)) (n : Nat) (b : Bool) (d : Nat) (ml : List Value) (t : T) (Q : Option Value → T → Prop) (u : Int32) (r : List Value) : vc xs zH_147 (n + 1) b d 147 80 ml (.int u :: r) t Q = (if u = 0 then vc xs zH_147 n true d 147 134 ml r t Q else vc xs zH_147 n true d 147 83 ml r t Q) := by
  rw [vc_q (o := (21, 0, 134, 0, [])) (by decide +kernel)]; rfl
theorem v_147_83 (xs : Option (List Int32)) (n : Nat) (b : Bool) (d : Nat) (ml : List Value) (t : T) (Q : Option Value → T → Prop) (st : List Value) : vc xs zH_147 (n + 1) b d 147 83 ml st t Q = vga ml 1 (fun v => vc xs zH_147 n true d 147 84 ml (.ref v :: st) t Q) := by
  rw [vc_q (o := (2, 0, 1, 0, [])) (by decide +kernel)]; rfl
theorem v_147_84 (xs : Option (List Int32)) (n : Nat) (b : Bool) (d : Nat) (ml : List Value) (t : T) (Q : Option Value → T → Prop) (u : Nat) (r : List Value) : vc xs zH_147 (n + 1) b d 147 84 ml (.ref u :: r) t Q = (vtag u = 11 ∧ vc xs zH_147 n true d 147 87 ml (.int (t.1 u 4) :: r) t Q) := by
  rw [vc_q (o := (24, 0, 11, 4, [])) (by decide +kernel)]; rfl
theorem v_147_87 (xs : Option (List Int32)) (n : Nat) (b : Bool) (d : Nat) (ml : List Value) (t : T) (Q : Option Value → T → Prop) (u : Int32) (r : List Value) : vc xs zH_147 (n + 1) b d 147 87 ml (.int u :: r) t Q = (if u = 0 then vc xs zH_147 n true d 147 102 ml r t Q else vc xs zH_147 n true d 147 90 ml r t Q) := by
  rw [vc_q (o := (21, 0, 102, 0, [])) (by decide +kernel)]; rfl
theorem v_147_90 (xs : Option (List Int32)) (n : Nat) (b : Bool) (d : Nat) (ml : List Value) (t : T) (Q : Option Value → T → Prop) (st : List Value) : vc xs zH_147 (n + 1) b d 147 90 ml st t Q = vga ml 5 (fun v => vc xs zH_147 n true d 147 92 ml (.ref v :: st) t Q) := by
  rw [vc_q (o := (2, 0, 5, 1, [])) (by decide +kernel)]; rfl
theorem v_147_92 (xs : Option (List Int32)) (n : Nat) (b : Bool) (d : Nat) (ml : List Value) (t : T) (Q : Option Value → T → Prop) (u : Nat) (r : List Value) : vc xs zH_147 (n + 1) b d 147 92 ml (.ref u :: r) t Q = (vtag u = 4 ∧ vc xs zH_147 n true d 147 95 ml (.int (t.1 u 0) :: r) t Q) := by
  rw [vc_q (o := (24, 0, 4, 0, [])) (by decide +kernel)]; rfl
theorem v_147_95 (xs : Option (List Int32)) (n : Nat) (b : Bool) (d : Nat) (ml : List Value) (t : T) (Q : Option Value → T → Prop) (st : List Value) : vc xs zH_147 (n + 1) b d 147 95 ml st t Q = vc xs zH_147 n true d 147 97 ml (.int 6 :: st) t Q := by
  rw [vc_q (o := (0, 6, 1, 0, [])) (by decide +kernel)]; rfl
theorem v_147_97 (xs : Option (List Int32)) (n : Nat) (b : Bool) (d : Nat) (ml : List Value) (t : T) (Q : Option Value → T → Prop) (u v : Int32) (r : List Value) : vc xs zH_147 (n + 1) b d 147 97 ml (.int v :: .int u :: r) t Q = (if u = v then vc xs zH_147 n true d 147 100 ml r t Q else vc xs zH_147 n true d 147 102 ml r t Q) := by
  rw [vc_q (o := (20, 0, 102, 1, [])) (by decide +kernel)]; rfl
theorem v_147_100 (xs : Option (List Int32)) (n : Nat) (b : Bool) (d : Nat) (ml : List Value) (t : T) (Q : Option Value → T → Prop) (st : List Value) : vc xs zH_147 (n + 1) b d 147 100 ml st t Q = vc xs zH_147 n true d 147 101 ml (.int 0 :: st) t Q := by
  rw [vc_q (o := (0, 0, 0, 0, [])) (by decide +kernel)]; rfl
theorem v_147_101 (xs : Option (List Int32)) (n : Nat) (b : Bool) (d : Nat) (ml : List Value) (t : T) (Q : Option Value → T → Prop) (v : Int32) : vc xs zH_147 (n + 1) b d 147 101 ml [.int v] t Q = ((v = 0 ∨ v = 1) ∧ Q (some (.int v)) t) := by
  rw [vc_q (o := (41, 0, 0, 0, [])) (by decide +kernel)]; rfl
theorem v_147_102 (xs : Option (List Int32)) (n : Nat) (b : Bool) (d : Nat) (ml : List Value) (t : T) (Q : Option Value → T → Prop) (st : List Value) : vc xs zH_147 (n + 1) b d 147 102 ml st t Q = vga ml 0 (fun v => vc xs zH_147 n true d 147 103 ml (.ref v :: st) t Q) := by
  rw [vc_q (o := (2, 0, 0, 0, [])) (by decide +kernel)]; rfl
theorem v_147_103 (xs : Option (List Int32)) (n : Nat) (b : Bool) (d : Nat) (ml : List Value) (t : T) (Q : Option Value → T → Prop) (st : List Value) : vc xs zH_147 (n + 1) b d 147 103 ml st t Q = vga ml 1 (fun v => vc xs zH_147 n true d 147 104 ml (.ref v :: st) t Q) := by
  rw [vc_q (o := (2, 0, 1, 0, [])) (by decide +kernel)]; rfl
theorem v_147_104 (xs : Option (List Int32)) (n : Nat) (b : Bool) (d : Nat) (ml : List Value) (t : T) (Q : Option Value → T → Prop) (st : List Value) : vc xs zH_147 (n + 1) b d 147 104 ml st t Q = vga ml 5 (fun v => vc xs zH_147 n true d 147 106 ml (.ref v :: st) t Q) := by
  rw [vc_q (o := (2, 0, 5, 1, [])) (by decide +kernel)]; rfl
theorem v_147_106 (xs : Option (List Int32)) (n : Nat) (b : Bool) (d : Nat) (ml : List Value) (t : T) (Q : Option Value → T → Prop) (st : List Value) : vc xs zH_147 (n + 1) b d 147 106 ml st t Q = (st.all zc1 = true ∧ vtk 3 st [] (fun as rest => rest.length ≤ 8 ∧ vrc as 7 (twc d 152 as t (fun r t' => vc xs zH_147 n true d 147 109 ml (r.toList ++ rest) t' Q)))) := by
  rw [vc_q (o := (36, 0, 152, 2, [(0, 7)])) (by decide +kernel)]; rfl
theorem v_147_109 (xs : Option (List Int32)) (n : Nat) (b : Bool) (d : Nat) (ml : List Value) (t : T) (Q : Option Value → T → Prop) (st : List Value) : vc xs zH_147 (n + 1) b d 147 109 ml st t Q = vga ml 0 (fun v => vc xs zH_147 n true d 147 110 ml (.ref v :: st) t Q) := by
  rw [vc_q (o := (2, 0, 0, 0, [])) (by decide +kernel)]; rfl
theorem v_147_110 (xs : Option (List Int32)) (n : Nat) (b : Bool) (d : Nat) (ml : List Value) (t : T) (Q : Option Value → T → Prop) (u : Nat) (r : List Value) : vc xs zH_147 (n + 1) b d 147 110 ml (.ref u :: r) t Q = (vtag u = 7 ∧ vc xs zH_147 n true d 147 113 ml (.ref (tref t u 1) :: r) t Q) := by
  rw [vc_q (o := (25, 0, 7, 1, [])) (by decide +kernel)]; rfl
theorem v_147_113 (xs : Option (List Int32)) (n : Nat) (b : Bool) (d : Nat) (ml : List Value) (t : T) (Q : Option Value → T → Prop) (st : List Value) : vc xs zH_147 (n + 1) b d 147 113 ml st t Q = vga ml 5 (fun v => vc xs zH_147 n true d 147 115 ml (.ref v :: st) t Q) := by
  rw [vc_q (o := (2, 0, 5, 1, [])) (by decide +kernel)]; rfl
theorem v_147_115 (xs : Option (List Int32)) (n : Nat) (b : Bool) (d : Nat) (ml : List Value) (t : T) (Q : Option Value → T → Prop) (st : List Value) : vc xs zH_147 (n + 1) b d 147 115 ml st t Q = (st.all zc1 = true ∧ vtk 2 st [] (fun as rest => rest.length ≤ 8 ∧ vrc as 5 (twc d 156 as t (fun r t' => vc xs zH_147 n true d 147 118 ml (r.toList ++ rest) t' Q)))) := by
  rw [vc_q (o := (36, 0, 156, 1, [(0, 5)])) (by decide +kernel)]; rfl
theorem v_147_118 (xs : Option (List Int32)) (n : Nat) (b : Bool) (d : Nat) (ml : List Value) (t : T) (Q : Option Value → T → Prop) (u : Int32) (r : List Value) : vc xs zH_147 (n + 1) b d 147 118 ml (.int u :: r) t Q = (if u = 0 then vc xs zH_147 n true d 147 134 ml r t Q else vc xs zH_147 n true d 147 121 ml r t Q) := by
  rw [vc_q (o := (21, 0, 134, 0, [])) (by decide +kernel)]; rfl
theorem v_147_121 (xs : Option (List Int32)) (n : Nat) (b : Bool) (d : Nat) (ml : List Value) (t : T) (Q : Option Value → T → Prop) (st : List Value) : vc xs zH_147 (n + 1) b d 147 121 ml st t Q = vga ml 0 (fun v => vc xs zH_147 n true d 147 122 ml (.ref v :: st) t Q) := by
  rw [vc_q (o := (2, 0, 0, 0, [])) (by decide +kernel)]; rfl
theorem v_147_122 (xs : Option (List Int32)) (n : Nat) (b : Bool) (d : Nat) (ml : List Value) (t : T) (Q : Option Value → T → Prop) (u : Nat) (r : List Value) : vc xs zH_147 (n + 1) b d 147 122 ml (.ref u :: r) t Q = (vtag u = 7 ∧ vc xs zH_147 n true d 147 125 ml (.ref (tref t u 3) :: r) t Q) := by
  rw [vc_q (o := (25, 0, 7, 3, [])) (by decide +kernel)]; rfl
theorem v_147_125 (xs : Option (List Int32)) (n : Nat) (b : Bool) (d : Nat) (ml : List Value) (t : T) (Q : Option Value → T → Prop) (st : List Value) : vc xs zH_147 (n + 1) b d 147 125 ml st t Q = vgi ml 4 (fun v => vc xs zH_147 n true d 147 127 ml (.int v :: st) t Q) := by
  rw [vc_q (o := (1, 0, 4, 1, [])) (by decide +kernel)]; rfl
theorem v_147_127 (xs : Option (List Int32)) (n : Nat) (b : Bool) (d : Nat) (ml : List Value) (t : T) (Q : Option Value → T → Prop) (st : List Value) : vc xs zH_147 (n + 1) b d 147 127 ml st t Q = vgi ml 3 (fun v => vc xs zH_147 n true d 147 128 ml (.int v :: st) t Q) := by
  rw [vc_q (o := (1, 0, 3, 0, [])) (by decide +kernel)]; rfl
theorem v_147_128 (xs : Option (List Int32)) (n : Nat) (b : Bool) (d : Nat) (ml : List Value) (t : T) (Q : Option Value → T → Prop) (st : List Value) : vc xs zH_147 (n + 1) b d 147 128 ml st t Q = (st.all zc1 = true ∧ vtk 3 st [] (fun as rest => rest.length ≤ 8 ∧ vrc as 8 (twc d 108 as t (fun r t' => vc xs zH_147 n true d 147 131 ml (r.toList ++ rest) t' Q)))) := by
  rw [vc_q (o := (36, 0, 108, 2, [(0, 8)])) (by decide +kernel)]; rfl
theorem v_147_131 (xs : Option (List Int32)) (n : Nat) (b : Bool) (d : Nat) (ml : List Value) (t : T) (Q : Option Value → T → Prop) (st : List Value) : vc xs zH_147 (n + 1) b d 147 131 ml st t Q = vgi ml 3 (fun v => vset ml 3 (.int (v + 1)) (fun l => vc xs zH_147 n true d 147 134 l st t Q)) := by
  rw [vc_q (o := (5, 1, 3, 0, [])) (by decide +kernel)]; rfl
theorem v_147_134 (xs : Option (List Int32)) (n : Nat) (b : Bool) (d : Nat) (ml : List Value) (t : T) (Q : Option Value → T → Prop) (st : List Value) : vc xs zH_147 (n + 1) b d 147 134 ml st t Q = vgi ml 4 (fun v => vset ml 4 (.int (v + 1)) (fun l => vc xs zH_147 n true d 147 137 l st t Q)) := by
  rw [vc_q (o := (5, 1, 4, 0, [])) (by decide +kernel)]; rfl
theorem v_147_137 (xs : Option (List Int32)) (n : Nat) (b : Bool) (d : Nat) (ml : List Value) (t : T) (Q : Option Value → T → Prop) (st : List Value) : vc xs zH_147 (n + 1) b d 147 137 ml st t Q = vc xs zH_147 n true d 147 41 ml st t Q := by
  rw [vc_q (o := (22, 0, 41, 0, [])) (by decide +kernel)]; rfl
theorem v_147_140 (xs : Option (List Int32)) (n : Nat) (b : Bool) (d : Nat) (ml : List Value) (t : T) (Q : Option Value → T → Prop) (st : List Value) : vc xs zH_147 (n + 1) b d 147 140 ml st t Q = vga ml 0 (fun v => vc xs zH_147 n true d 147 141 ml (.ref v :: st) t Q) := by
  rw [vc_q (o := (2, 0, 0, 0, [])) (by decide +kernel)]; rfl
theorem v_147_141 (xs : Option (List Int32)) (n : Nat) (b : Bool) (d : Nat) (ml : List Value) (t : T) (Q : Option Value → T → Prop) (u : Nat) (r : List Value) : vc xs zH_147 (n + 1) b d 147 141 ml (.ref u :: r) t Q = (vtag u = 7 ∧ vc xs zH_147 n true d 147 144 ml (.ref (tref t u 3) :: r) t Q) := by
  rw [vc_q (o := (25, 0, 7, 3, [])) (by decide +kernel)]; rfl
theorem v_147_144 (xs : Option (List Int32)) (n : Nat) (b : Bool) (d : Nat) (ml : List Value) (t : T) (Q : Option Value → T → Prop) (st : List Value) : vc xs zH_147 (n + 1) b d 147 144 ml st t Q = vgi ml 3 (fun v => vc xs zH_147 n true d 147 145 ml (.int v :: st) t Q) := by
  rw [vc_q (o := (1, 0, 3, 0, [])) (by decide +kernel)]; rfl
theorem v_147_145 (xs : Option (List Int32)) (n : Nat) (b : Bool) (d : Nat) (ml : List Value) (t : T) (Q : Option Value → T → Prop) (v : Int32) (u : Nat) (r : List Value) : vc xs zH_147 (n + 1) b d 147 145 ml (.int v :: .ref u :: r) t Q = (vtag u = 8 ∧ vc xs zH_147 n true d 147 148 ml r (tsi t u 1 v) Q) := by
  rw [vc_q (o := (26, 0, 8, 1, [])) (by decide +kernel)]; rfl
theorem v_147_148 (xs : Option (List Int32)) (n : Nat) (b : Bool) (d : Nat) (ml : List Value) (t : T) (Q : Option Value → T → Prop) (st : List Value) : vc xs zH_147 (n + 1) b d 147 148 ml st t Q = vc xs zH_147 n true d 147 149 ml (.int 1 :: st) t Q := by
  rw [vc_q (o := (0, 1, 0, 0, [])) (by decide +kernel)]; rfl
theorem v_147_149 (xs : Option (List Int32)) (n : Nat) (b : Bool) (d : Nat) (ml : List Value) (t : T) (Q : Option Value → T → Prop) (v : Int32) : vc xs zH_147 (n + 1) b d 147 149 ml [.int v] t Q = ((v = 0 ∨ v = 1) ∧ Q (some (.int v)) t) := by
  rw [vc_q (o := (41, 0, 0, 0, [])) (by decide +kernel)]; rfl
def zH_148 : List Nat := [2, 55]
theorem v_148_0 (xs : Option (List Int32)) (n : Nat) (b : Bool) (d : Nat) (ml : List Value) (t : T) (Q : Option Value → T → Prop) (st : List Value) : vc xs zH_148 (n + 1) b d 148 0 ml st t Q = vc xs zH_148 n true d 148 1 ml (.int 0 :: st) t Q := by
  rw [vc_q (o := (0, 0, 0, 0, [])) (by decide +kernel)]; rfl
theorem v_148_1 (xs : Option (List Int32)) (n : Nat) (b : Bool) (d : Nat) (ml : List Value) (t : T) (Q : Option Value → T → Prop) (v : Int32) (r : List Value) : vc xs zH_148 (n + 1) b d 148 1 ml (.int v :: r) t Q = vset ml 2 (.int v) (fun l => vc xs zH_148 n true d 148 2 l r t Q) := by
  rw [vc_q (o := (3, 0, 2, 0, [])) (by decide +kernel)]; rfl
theorem v_148_2 (xs : Option (List Int32)) (n : Nat) (d : Nat) (ml : List Value) (t : T) (Q : Option Value → T → Prop) (st : List Value) : vc xs zH_148 (n + 1) false d 148 2 ml st t Q = vgi ml 2 (fun v => vc xs zH_148 n true d 148 3 ml (.int v :: st) t Q) := by
  rw [vc_q (o := (1, 0, 2, 0, [])) (by decide +kernel)]; rfl
theorem h_148_2 (xs : Option (List Int32)) (n d : Nat) (ml st : List Value) (t : T) (Q : Option Value → T → Prop) : vc xs zH_148 (n + 1) true d 148 2 ml st t Q = twp xs d 148 2 ml st t Q := id rfl
theorem v_148_3 (xs : Option (List Int32)) (n : Nat) (b : Bool) (d : Nat) (ml : List Value) (t : T) (Q : Option Value → T → Prop) (st : List Value) : vc xs zH_148 (n + 1) b d 148 3 ml st t Q = vc xs zH_148 n true d 148 5 ml (.int 40 :: st) t Q := by
  rw [vc_q (o := (0, 40, 1, 0, [])) (by decide +kernel)]; rfl
theorem v_148_5 (xs : Option (List Int32)) (n : Nat) (b : Bool) (d : Nat) (ml : List Value) (t : T) (Q : Option Value → T → Prop) (u v : Int32) (r : List Value) : vc xs zH_148 (n + 1) b d 148 5 ml (.int v :: .int u :: r) t Q = (if u < v then vc xs zH_148 n true d 148 8 ml r t Q else vc xs zH_148 n true d 148 131 ml r t Q) := by
  rw [vc_q (o := (20, 0, 131, 3, [])) (by decide +kernel)]; rfl
theorem v_148_8 (xs : Option (List Int32)) (n : Nat) (b : Bool) (d : Nat) (ml : List Value) (t : T) (Q : Option Value → T → Prop) (st : List Value) : vc xs zH_148 (n + 1) b d 148 8 ml st t Q = vgi ml 2 (fun v => vc xs zH_148 n true d 148 9 ml (.int v :: st) t Q) := by
  rw [vc_q (o := (1, 0, 2, 0, [])) (by decide +kernel)]; rfl
theorem v_148_9 (xs : Option (List Int32)) (n : Nat) (b : Bool) (d : Nat) (ml : List Value) (t : T) (Q : Option Value → T → Prop) (st : List Value) : vc xs zH_148 (n + 1) b d 148 9 ml st t Q = vga ml 0 (fun v => vc xs zH_148 n true d 148 10 ml (.ref v :: st) t Q) := by
  rw [vc_q (o := (2, 0, 0, 0, [])) (by decide +kernel)]; rfl
theorem v_148_10 (xs : Option (List Int32)) (n : Nat) (b : Bool) (d : Nat) (ml : List Value) (t : T) (Q : Option Value → T → Prop) (u : Nat) (r : List Value) : vc xs zH_148 (n + 1) b d 148 10 ml (.ref u :: r) t Q = (vtag u = 7 ∧ vc xs zH_148 n true d 148 13 ml (.ref (tref t u 3) :: r) t Q) := by
  rw [vc_q (o := (25, 0, 7, 3, [])) (by decide +kernel)]; rfl
theorem v_148_13 (xs : Option (List Int32)) (n : Nat) (b : Bool) (d : Nat) (ml : List Value) (t : T) (Q : Option Value → T → Prop) (u : Nat) (r : List Value) : vc xs zH_148 (n + 1) b d 148 13 ml (.ref u :: r) t Q = (vtag u = 8 ∧ vc xs zH_148 n true d 148 16 ml (.int (t.1 u 1) :: r) t Q) := by
  rw [vc_q (o := (24, 0, 8, 1, [])) (by decide +kernel)]; rfl
theorem v_148_16 (xs : Option (List Int32)) (n : Nat) (b : Bool) (d : Nat) (ml : List Value) (t : T) (Q : Option Value → T → Prop) (u v : Int32) (r : List Value) : vc xs zH_148 (n + 1) b d 148 16 ml (.int v :: .int u :: r) t Q = (if u < v then vc xs zH_148 n true d 148 19 ml r t Q else vc xs zH_148 n true d 148 131 ml r t Q) := by
  rw [vc_q (o := (20, 0, 131, 3, [])) (by decide +kernel)]; rfl
theorem v_148_19 (xs : Option (List Int32)) (n : Nat) (b : Bool) (d : Nat) (ml : List Value) (t : T) (Q : Option Value → T → Prop) (st : List Value) : vc xs zH_148 (n + 1) b d 148 19 ml st t Q = vga ml 0 (fun v => vc xs zH_148 n true d 148 20 ml (.ref v :: st) t Q) := by
  rw [vc_q (o := (2, 0, 0, 0, [])) (by decide +kernel)]; rfl
theorem v_148_20 (xs : Option (List Int32)) (n : Nat) (b : Bool) (d : Nat) (ml : List Value) (t : T) (Q : Option Value → T → Prop) (u : Nat) (r : List Value) : vc xs zH_148 (n + 1) b d 148 20 ml (.ref u :: r) t Q = (vtag u = 7 ∧ vc xs zH_148 n true d 148 23 ml (.ref (tref t u 3) :: r) t Q) := by
  rw [vc_q (o := (25, 0, 7, 3, [])) (by decide +kernel)]; rfl
theorem v_148_23 (xs : Option (List Int32)) (n : Nat) (b : Bool) (d : Nat) (ml : List Value) (t : T) (Q : Option Value → T → Prop) (u : Nat) (r : List Value) : vc xs zH_148 (n + 1) b d 148 23 ml (.ref u :: r) t Q = (vtag u = 8 ∧ vc xs zH_148 n true d 148 26 ml (.ref (tref t u 0) :: r) t Q) := by
  rw [vc_q (o := (25, 0, 8, 0, [])) (by decide +kernel)]; rfl
theorem v_148_26 (xs : Option (List Int32)) (n : Nat) (b : Bool) (d : Nat) (ml : List Value) (t : T) (Q : Option Value → T → Prop) (st : List Value) : vc xs zH_148 (n + 1) b d 148 26 ml st t Q = vgi ml 2 (fun v => vc xs zH_148 n true d 148 27 ml (.int v :: st) t Q) := by
  rw [vc_q (o := (1, 0, 2, 0, [])) (by decide +kernel)]; rfl
theorem v_148_27 (xs : Option (List Int32)) (n : Nat) (b : Bool) (d : Nat) (ml : List Value) (t : T) (Q : Option Value → T → Prop) (v : Int32) (u : Nat) (r : List Value) : vc xs zH_148 (n + 1) b d 148 27 ml (.int v :: .ref u :: r) t Q = (103 ≤ vtag u ∧ vtag u < 108 ∧ vinb v (vlen u) ∧ vc xs zH_148 n true d 148 28 ml (.ref (tref t u v.toNatClampNeg) :: r) t Q) := by
  rw [vc_q (o := (31, 0, 0, 0, [])) (by decide +kernel)]; rfl
theorem v_148_28 (xs : Option (List Int32)) (n : Nat) (b : Bool) (d : Nat) (ml : List Value) (t : T) (Q : Option Value → T → Prop) (v : Nat) (r : List Value) : vc xs zH_148 (n + 1) b d 148 28 ml (.ref v :: r) t Q = vset ml 3 (.ref v) (fun l => vc xs zH_148 n true d 148 29 l r t Q) := by
  rw [vc_q (o := (4, 0, 3, 0, [])) (by decide +kernel)]; rfl
theorem v_148_29 (xs : Option (List Int32)) (n : Nat) (b : Bool) (d : Nat) (ml : List Value) (t : T) (Q : Option Value → T → Prop) (st : List Value) : vc xs zH_148 (n + 1) b d 148 29 ml st t Q = vga ml 1 (fun v => vc xs zH_148 n true d 148 30 ml (.ref v :: st) t Q) := by
  rw [vc_q (o := (2, 0, 1, 0, [])) (by decide +kernel)]; rfl
theorem v_148_30 (xs : Option (List Int32)) (n : Nat) (b : Bool) (d : Nat) (ml : List Value) (t : T) (Q : Option Value → T → Prop) (u : Nat) (r : List Value) : vc xs zH_148 (n + 1) b d 148 30 ml (.ref u :: r) t Q = (vtag u = 11 ∧ vc xs zH_148 n true d 148 33 ml (.int (t.1 u 2) :: r) t Q) := by
  rw [vc_q (o := (24, 0, 11, 2, [])) (by decide +kernel)]; rfl
theorem v_148_33 (xs : Option (List Int32)) (n : Nat) (b : Bool) (d : Nat) (ml : List Value) (t : T) (Q : Option Value → T → Prop) (st : List Value) : vc xs zH_148 (n + 1) b d 148 33 ml st t Q = vc xs zH_148 n true d 148 35 ml (.int 6 :: st) t Q := by
  rw [vc_q (o := (0, 6, 1, 0, [])) (by decide +kernel)]; rfl
theorem v_148_35 (xs : Option (List Int32)) (n : Nat) (b : Bool) (d : Nat) (ml : List Value) (t : T) (Q : Option Value → T → Prop) (u v : Int32) (r : List Value) : vc xs zH_148 (n + 1) b d 148 35 ml (.int v :: .int u :: r) t Q = (if u < v then vc xs zH_148 n true d 148 38 ml r t Q else vc xs zH_148 n true d 148 42 ml r t Q) := by
  rw [vc_q (o := (20, 0, 42, 3, [])) (by decide +kernel)]; rfl
theorem v_148_38 (xs : Option (List Int32)) (n : Nat) (b : Bool) (d : Nat) (ml : List Value) (t : T) (Q : Option Value → T → Prop) (st : List Value) : vc xs zH_148 (n + 1) b d 148 38 ml st t Q = vc xs zH_148 n true d 148 39 ml (.int 0 :: st) t Q := by
  rw [vc_q (o := (0, 0, 0, 0, [])) (by decide +kernel)]; rfl
theorem v_148_39 (xs : Option (List Int32)) (n : Nat) (b : Bool) (d : Nat) (ml : List Value) (t : T) (Q : Option Value → T → Prop) (st : List Value) : vc xs zH_148 (n + 1) b d 148 39 ml st t Q = vc xs zH_148 n true d 148 50 ml st t Q := by
  rw [vc_q (o := (22, 0, 50, 0, [])) (by decide +kernel)]; rfl
theorem v_148_42 (xs : Option (List Int32)) (n : Nat) (b : Bool) (d : Nat) (ml : List Value) (t : T) (Q : Option Value → T → Prop) (st : List Value) : vc xs zH_148 (n + 1) b d 148 42 ml st t Q = vga ml 3 (fun v => vc xs zH_148 n true d 148 43 ml (.ref v :: st) t Q) := by
  rw [vc_q (o := (2, 0, 3, 0, [])) (by decide +kernel)]; rfl
theorem v_148_43 (xs : Option (List Int32)) (n : Nat) (b : Bool) (d : Nat) (ml : List Value) (t : T) (Q : Option Value → T → Prop) (st : List Value) : vc xs zH_148 (n + 1) b d 148 43 ml st t Q = vga ml 1 (fun v => vc xs zH_148 n true d 148 44 ml (.ref v :: st) t Q) := by
  rw [vc_q (o := (2, 0, 1, 0, [])) (by decide +kernel)]; rfl
theorem v_148_44 (xs : Option (List Int32)) (n : Nat) (b : Bool) (d : Nat) (ml : List Value) (t : T) (Q : Option Value → T → Prop) (u : Nat) (r : List Value) : vc xs zH_148 (n + 1) b d 148 44 ml (.ref u :: r) t Q = (vtag u = 11 ∧ vc xs zH_148 n true d 148 47 ml (.int (t.1 u 3) :: r) t Q) := by
  rw [vc_q (o := (24, 0, 11, 3, [])) (by decide +kernel)]; rfl
theorem v_148_47 (xs : Option (List Int32)) (n : Nat) (b : Bool) (d : Nat) (ml : List Value) (t : T) (Q : Option Value → T → Prop) (st : List Value) : vc xs zH_148 (n + 1) b d 148 47 ml st t Q = (st.all zc1 = true ∧ vtk 2 st [] (fun as rest => rest.length ≤ 8 ∧ twc d 149 as t (fun r t' => vc xs zH_148 n true d 148 50 ml (r.toList ++ rest) t' Q))) := by
  rw [vc_q (o := (37, 0, 149, 2, [])) (by decide +kernel)]; rfl
theorem v_148_50 (xs : Option (List Int32)) (n : Nat) (b : Bool) (d : Nat) (ml : List Value) (t : T) (Q : Option Value → T → Prop) (v : Int32) (r : List Value) : vc xs zH_148 (n + 1) b d 148 50 ml (.int v :: r) t Q = vset ml 4 (.int v) (fun l => vc xs zH_148 n true d 148 52 l r t Q) := by
  rw [vc_q (o := (3, 0, 4, 1, [])) (by decide +kernel)]; rfl
theorem v_148_52 (xs : Option (List Int32)) (n : Nat) (b : Bool) (d : Nat) (ml : List Value) (t : T) (Q : Option Value → T → Prop) (st : List Value) : vc xs zH_148 (n + 1) b d 148 52 ml st t Q = vc xs zH_148 n true d 148 53 ml (.int 0 :: st) t Q := by
  rw [vc_q (o := (0, 0, 0, 0, [])) (by decide +kernel)]; rfl
theorem v_148_53 (xs : Option (List Int32)) (n : Nat) (b : Bool) (d : Nat) (ml : List Value) (t : T) (Q : Option Value → T → Prop) (v : Int32) (r : List Value) : vc xs zH_148 (n + 1) b d 148 53 ml (.int v :: r) t Q = vset ml 5 (.int v) (fun l => vc xs zH_148 n true d 148 55 l r t Q) := by
  rw [vc_q (o := (3, 0, 5, 1, [])) (by decide +kernel)]; rfl
theorem v_148_55 (xs : Option (List Int32)) (n : Nat) (d : Nat) (ml : List Value) (t : T) (Q : Option Value → T → Prop) (st : List Value) : vc xs zH_148 (n + 1) false d 148 55 ml st t Q = vgi ml 5 (fun v => vc xs zH_148 n true d 148 57 ml (.int v :: st) t Q) := by
  rw [vc_q (o := (1, 0, 5, 1, [])) (by decide +kernel)]; rfl
theorem h_148_55 (xs : Option (List Int32)) (n d : Nat) (ml st : List Value) (t : T) (Q : Option Value → T → Prop) : vc xs zH_148 (n + 1) true d 148 55 ml st t Q = twp xs d 148 55 ml st t Q := id rfl
theorem v_148_57 (xs : Option (List Int32)) (n : Nat) (b : Bool) (d : Nat) (ml : List Value) (t : T) (Q : Option Value → T → Prop) (st : List Value) : vc xs zH_148 (n + 1) b d 148 57 ml st t Q = vga ml 3 (fun v => vc xs zH_148 n true d 148 58 ml (.ref v :: st) t Q) := by
  rw [vc_q (o := (2, 0, 3, 0, [])) (by decide +kernel)]; rfl
theorem v_148_58 (xs : Option (List Int32)) (n : Nat) (b : Bool) (d : Nat) (ml : List Value) (t : T) (Q : Option Value → T → Prop) (u : Nat) (r : List Value) : vc xs zH_148 (n + 1) b d 148 58 ml (.ref u :: r) t Q = (vtag u = 4 ∧ vc xs zH_148 n true d 148 61 ml (.int (t.1 u 0) :: r) t Q) := by
  rw [vc_q (o := (24, 0, 4, 0, [])) (by decide +kernel)]; rfl
theorem v_148_61 (xs : Option (List Int32)) (n : Nat) (b : Bool) (d : Nat) (ml : List Value) (t : T) (Q : Option Value → T → Prop) (u v : Int32) (r : List Value) : vc xs zH_148 (n + 1) b d 148 61 ml (.int v :: .int u :: r) t Q = (if u < v then vc xs zH_148 n true d 148 64 ml r t Q else vc xs zH_148 n true d 148 125 ml r t Q) := by
  rw [vc_q (o := (20, 0, 125, 3, [])) (by decide +kernel)]; rfl
theorem v_148_64 (xs : Option (List Int32)) (n : Nat) (b : Bool) (d : Nat) (ml : List Value) (t : T) (Q : Option Value → T → Prop) (st : List Value) : vc xs zH_148 (n + 1) b d 148 64 ml st t Q = vgi ml 4 (fun v => vc xs zH_148 n true d 148 66 ml (.int v :: st) t Q) := by
  rw [vc_q (o := (1, 0, 4, 1, [])) (by decide +kernel)]; rfl
theorem v_148_66 (xs : Option (List Int32)) (n : Nat) (b : Bool) (d : Nat) (ml : List Value) (t : T) (Q : Option Value → T → Prop) (u : Int32) (r : List Value) : vc xs zH_148 (n + 1) b d 148 66 ml (.int u :: r) t Q = (if u < 0 then vc xs zH_148 n true d 148 125 ml r t Q else vc xs zH_148 n true d 148 69 ml r t Q) := by
  rw [vc_q (o := (21, 0, 125, 2, [])) (by decide +kernel)]; rfl
theorem v_148_69 (xs : Option (List Int32)) (n : Nat) (b : Bool) (d : Nat) (ml : List Value) (t : T) (Q : Option Value → T → Prop) (st : List Value) : vc xs zH_148 (n + 1) b d 148 69 ml st t Q = vga ml 3 (fun v => vc xs zH_148 n true d 148 70 ml (.ref v :: st) t Q) := by
  rw [vc_q (o := (2, 0, 3, 0, [])) (by decide +kernel)]; rfl
theorem v_148_70 (xs : Option (List Int32)) (n : Nat) (b : Bool) (d : Nat) (ml : List Value) (t : T) (Q : Option Value → T → Prop) (u : Nat) (r : List Value) : vc xs zH_148 (n + 1) b d 148 70 ml (.ref u :: r) t Q = (vtag u = 4 ∧ vc xs zH_148 n true d 148 73 ml (.ref (tref t u 1) :: r) t Q) := by
  rw [vc_q (o := (25, 0, 4, 1, [])) (by decide +kernel)]; rfl
theorem v_148_73 (xs : Option (List Int32)) (n : Nat) (b : Bool) (d : Nat) (ml : List Value) (t : T) (Q : Option Value → T → Prop) (st : List Value) : vc xs zH_148 (n + 1) b d 148 73 ml st t Q = vga ml 1 (fun v => vc xs zH_148 n true d 148 74 ml (.ref v :: st) t Q) := by
  rw [vc_q (o := (2, 0, 1, 0, [])) (by decide +kernel)]; rfl
theorem v_148_74 (xs : Option (List Int32)) (n : Nat) (b : Bool) (d : Nat) (ml : List Value) (t : T) (Q : Option Value → T → Prop) (u : Nat) (r : List Value) : vc xs zH_148 (n + 1) b d 148 74 ml (.ref u :: r) t Q = (vtag u = 11 ∧ vc xs zH_148 n true d 148 77 ml (.int (t.1 u 2) :: r) t Q) := by
  rw [vc_q (o := (24, 0, 11, 2, [])) (by decide +kernel)]; rfl
theorem v_148_77 (xs : Option (List Int32)) (n : Nat) (b : Bool) (d : Nat) (ml : List Value) (t : T) (Q : Option Value → T → Prop) (st : List Value) : vc xs zH_148 (n + 1) b d 148 77 ml st t Q = vgi ml 4 (fun v => vc xs zH_148 n true d 148 79 ml (.int v :: st) t Q) := by
  rw [vc_q (o := (1, 0, 4, 1, [])) (by decide +kernel)]; rfl
theorem v_148_79 (xs : Option (List Int32)) (n : Nat) (b : Bool) (d : Nat) (ml : List Value) (t : T) (Q : Option Value → T → Prop) (st : List Value) : vc xs zH_148 (n + 1) b d 148 79 ml st t Q = vgi ml 5 (fun v => vc xs zH_148 n true d 148 81 ml (.int v :: st) t Q) := by
  rw [vc_q (o := (1, 0, 5, 1, [])) (by decide +kernel)]; rfl
theorem v_148_81 (xs : Option (List Int32)) (n : Nat) (b : Bool) (d : Nat) (ml : List Value) (t : T) (Q : Option Value → T → Prop) (st : List Value) : vc xs zH_148 (n + 1) b d 148 81 ml st t Q = (st.all zc1 = true ∧ vtk 3 st [] (fun as rest => rest.length ≤ 8 ∧ twc d 150 as t (fun r t' => vc xs zH_148 n true d 148 84 ml (r.toList ++ rest) t' Q))) := by
  rw [vc_q (o := (37, 0, 150, 3, [])) (by decide +kernel)]; rfl
theorem v_148_84 (xs : Option (List Int32)) (n : Nat) (b : Bool) (d : Nat) (ml : List Value) (t : T) (Q : Option Value → T → Prop) (v : Int32) (u : Nat) (r : List Value) : vc xs zH_148 (n + 1) b d 148 84 ml (.int v :: .ref u :: r) t Q = (vtag u = 100 ∧ vinb v (vlen u) ∧ vc xs zH_148 n true d 148 85 ml (.int (t.1 u v.toNatClampNeg) :: r) t Q) := by
  rw [vc_q (o := (29, 0, 0, 0, [])) (by decide +kernel)]; rfl
theorem v_148_85 (xs : Option (List Int32)) (n : Nat) (b : Bool) (d : Nat) (ml : List Value) (t : T) (Q : Option Value → T → Prop) (st : List Value) : vc xs zH_148 (n + 1) b d 148 85 ml st t Q = vc xs zH_148 n true d 148 86 ml (.int 2 :: st) t Q := by
  rw [vc_q (o := (0, 2, 0, 0, [])) (by decide +kernel)]; rfl
theorem v_148_86 (xs : Option (List Int32)) (n : Nat) (b : Bool) (d : Nat) (ml : List Value) (t : T) (Q : Option Value → T → Prop) (u v : Int32) (r : List Value) : vc xs zH_148 (n + 1) b d 148 86 ml (.int v :: .int u :: r) t Q = (if u = v then vc xs zH_148 n true d 148 89 ml r t Q else vc xs zH_148 n true d 148 93 ml r t Q) := by
  rw [vc_q (o := (20, 0, 93, 1, [])) (by decide +kernel)]; rfl
theorem v_148_89 (xs : Option (List Int32)) (n : Nat) (b : Bool) (d : Nat) (ml : List Value) (t : T) (Q : Option Value → T → Prop) (st : List Value) : vc xs zH_148 (n + 1) b d 148 89 ml st t Q = vc xs zH_148 n true d 148 90 ml (.int 1 :: st) t Q := by
  rw [vc_q (o := (0, 1, 0, 0, [])) (by decide +kernel)]; rfl
theorem v_148_90 (xs : Option (List Int32)) (n : Nat) (b : Bool) (d : Nat) (ml : List Value) (t : T) (Q : Option Value → T → Prop) (st : List Value) : vc xs zH_148 (n + 1) b d 148 90 ml st t Q = vc xs zH_148 n true d 148 94 ml st t Q := by
  rw [vc_q (o := (22, 0, 94, 0, [])) (by decide +kernel)]; rfl
theorem v_148_93 (xs : Option (List Int32)) (n : Nat) (b : Bool) (d : Nat) (ml : List Value) (t : T) (Q : Option Value → T → Prop) (st : List Value) : vc xs zH_148 (n + 1) b d 148 93 ml st t Q = vc xs zH_148 n true d 148 94 ml (.int 0 :: st) t Q := by
  rw [vc_q (o := (0, 0, 0, 0, [])) (by decide +kernel)]; rfl
theorem v_148_94 (xs : Option (List Int32)) (n : Nat) (b : Bool) (d : Nat) (ml : List Value) (t : T) (Q : Option Value → T → Prop) (v : Int32) (r : List Value) : vc xs zH_148 (n + 1) b d 148 94 ml (.int v :: r) t Q = vset ml 6 (.int v) (fun l => vc xs zH_148 n true d 148 96 l r t Q) := by
  rw [vc_q (o := (3, 0, 6, 1, [])) (by decide +kernel)]; rfl
theorem v_148_96 (xs : Option (List Int32)) (n : Nat) (b : Bool) (d : Nat) (ml : List Value) (t : T) (Q : Option Value → T → Prop) (st : List Value) : vc xs zH_148 (n + 1) b d 148 96 ml st t Q = vgi ml 6 (fun v => vc xs zH_148 n true d 148 98 ml (.int v :: st) t Q) := by
  rw [vc_q (o := (1, 0, 6, 1, [])) (by decide +kernel)]; rfl
theorem v_148_98 (xs : Option (List Int32)) (n : Nat) (b : Bool) (d : Nat) (ml : List Value) (t : T) (Q : Option Value → T → Prop) (u : Int32) (r : List Value) : vc xs zH_148 (n + 1) b d 148 98 ml (.int u :: r) t Q = (if u = 0 then vc xs zH_148 n true d 148 119 ml r t Q else vc xs zH_148 n true d 148 101 ml r t Q) := by
  rw [vc_q (o := (21, 0, 119, 0, [])) (by decide +kernel)]; rfl
theorem v_148_101 (xs : Option (List Int32)) (n : Nat) (b : Bool) (d : Nat) (ml : List Value) (t : T) (Q : Option Value → T → Prop) (st : List Value) : vc xs zH_148 (n + 1) b d 148 101 ml st t Q = vga ml 0 (fun v => vc xs zH_148 n true d 148 102 ml (.ref v :: st) t Q) := by
  rw [vc_q (o := (2, 0, 0, 0, [])) (by decide +kernel)]; rfl
theorem v_148_102 (xs : Option (List Int32)) (n : Nat) (b : Bool) (d : Nat) (ml : List Value) (t : T) (Q : Option Value → T → Prop) (st : List Value) : vc xs zH_148 (n + 1) b d 148 102 ml st t Q = vga ml 3 (fun v => vc xs zH_148 n true d 148 103 ml (.ref v :: st) t Q) := by
  rw [vc_q (o := (2, 0, 3, 0, [])) (by decide +kernel)]; rfl
theorem v_148_103 (xs : Option (List Int32)) (n : Nat) (b : Bool) (d : Nat) (ml : List Value) (t : T) (Q : Option Value → T → Prop) (st : List Value) : vc xs zH_148 (n + 1) b d 148 103 ml st t Q = vga ml 1 (fun v => vc xs zH_148 n true d 148 104 ml (.ref v :: st) t Q) := by
  rw [vc_q (o := (2, 0, 1, 0, [])) (by decide +kernel)]; rfl
theorem v_148_104 (xs : Option (List Int32)) (n : Nat) (b : Bool) (d : Nat) (ml : List Value) (t : T) (Q : Option Value → T → Prop) (u : Nat) (r : List Value) : vc xs zH_148 (n + 1) b d 148 104 ml (.ref u :: r) t Q = (vtag u = 11 ∧ vc xs zH_148 n true d 148 107 ml (.int (t.1 u 2) :: r) t Q) := by
  rw [vc_q (o := (24, 0, 11, 2, [])) (by decide +kernel)]; rfl
theorem v_148_107 (xs : Option (List Int32)) (n : Nat) (b : Bool) (d : Nat) (ml : List Value) (t : T) (Q : Option Value → T → Prop) (st : List Value) : vc xs zH_148 (n + 1) b d 148 107 ml st t Q = vgi ml 4 (fun v => vc xs zH_148 n true d 148 109 ml (.int v :: st) t Q) := by
  rw [vc_q (o := (1, 0, 4, 1, [])) (by decide +kernel)]; rfl
theorem v_148_109 (xs : Option (List Int32)) (n : Nat) (b : Bool) (d : Nat) (ml : List Value) (t : T) (Q : Option Value → T → Prop) (st : List Value) : vc xs zH_148 (n + 1) b d 148 109 ml st t Q = vgi ml 5 (fun v => vc xs zH_148 n true d 148 111 ml (.int v :: st) t Q) := by
  rw [vc_q (o := (1, 0, 5, 1, [])) (by decide +kernel)]; rfl
theorem v_148_111 (xs : Option (List Int32)) (n : Nat) (b : Bool) (d : Nat) (ml : List Value) (t : T) (Q : Option Value → T → Prop) (st : List Value) : vc xs zH_148 (n + 1) b d 148 111 ml st t Q = (st.all zc1 = true ∧ vtk 5 st [] (fun as rest => rest.length ≤ 8 ∧ vrc as 7 (twc d 151 as t (fun r t' => vc xs zH_148 n true d 148 114 ml (r.toList ++ rest) t' Q)))) := by
  rw [vc_q (o := (36, 0, 151, 4, [(0, 7)])) (by decide +kernel)]; rfl
theorem v_148_114 (xs : Option (List Int32)) (n : Nat) (b : Bool) (d : Nat) (ml : List Value) (t : T) (Q : Option Value → T → Prop) (u : Int32) (r : List Value) : vc xs zH_148 (n + 1) b d 148 114 ml (.int u :: r) t Q = (if u = 0 then vc xs zH_148 n true d 148 117 ml r t Q else vc xs zH_148 n true d 148 119 ml r t Q) := by
  rw [vc_q (o := (21, 0, 119, 1, [])) (by decide +kernel)]; rfl
theorem v_148_117 (xs : Option (List Int32)) (n : Nat) (b : Bool) (d : Nat) (ml : List Value) (t : T) (Q : Option Value → T → Prop) (st : List Value) : vc xs zH_148 (n + 1) b d 148 117 ml st t Q = vc xs zH_148 n true d 148 118 ml (.int 0 :: st) t Q := by
  rw [vc_q (o := (0, 0, 0, 0, [])) (by decide +kernel)]; rfl
theorem v_148_118 (xs : Option (List Int32)) (n : Nat) (b : Bool) (d : Nat) (ml : List Value) (t : T) (Q : Option Value → T → Prop) (v : Int32) : vc xs zH_148 (n + 1) b d 148 118 ml [.int v] t Q = ((v = 0 ∨ v = 1) ∧ Q (some (.int v)) t) := by
  rw [vc_q (o := (41, 0, 0, 0, [])) (by decide +kernel)]; rfl
theorem v_148_119 (xs : Option (List Int32)) (n : Nat) (b : Bool) (d : Nat) (ml : List Value) (t : T) (Q : Option Value → T → Prop) (st : List Value) : vc xs zH_148 (n + 1) b d 148 119 ml st t Q = vgi ml 5 (fun v => vset ml 5 (.int (v + 1)) (fun l => vc xs zH_148 n true d 148 122 l st t Q)) := by
  rw [vc_q (o := (5, 1, 5, 0, [])) (by decide +kernel)]; rfl
theorem v_148_122 (xs : Option (List Int32)) (n : Nat) (b : Bool) (d : Nat) (ml : List Value) (t : T) (Q : Option Value → T → Prop) (st : List Value) : vc xs zH_148 (n + 1) b d 148 122 ml st t Q = vc xs zH_148 n true d 148 55 ml st t Q := by
  rw [vc_q (o := (22, 0, 55, 0, [])) (by decide +kernel)]; rfl
theorem v_148_125 (xs : Option (List Int32)) (n : Nat) (b : Bool) (d : Nat) (ml : List Value) (t : T) (Q : Option Value → T → Prop) (st : List Value) : vc xs zH_148 (n + 1) b d 148 125 ml st t Q = vgi ml 2 (fun v => vset ml 2 (.int (v + 1)) (fun l => vc xs zH_148 n true d 148 128 l st t Q)) := by
  rw [vc_q (o := (5, 1, 2, 0, [])) (by decide +kernel)]; rfl
theorem v_148_128 (xs : Option (List Int32)) (n : Nat) (b : Bool) (d : Nat) (ml : List Value) (t : T) (Q : Option Value → T → Prop) (st : List Value) : vc xs zH_148 (n + 1) b d 148 128 ml st t Q = vc xs zH_148 n true d 148 2 ml st t Q := by
  rw [vc_q (o := (22, 0, 2, 0, [])) (by decide +kernel)]; rfl
theorem v_148_131 (xs : Option (List Int32)) (n : Nat) (b : Bool) (d : Nat) (ml : List Value) (t : T) (Q : Option Value → T → Prop) (st : List Value) : vc xs zH_148 (n + 1) b d 148 131 ml st t Q = vc xs zH_148 n true d 148 132 ml (.int 1 :: st) t Q := by
  rw [vc_q (o := (0, 1, 0, 0, [])) (by decide +kernel)]; rfl
theorem v_148_132 (xs : Option (List Int32)) (n : Nat) (b : Bool) (d : Nat) (ml : List Value) (t : T) (Q : Option Value → T → Prop) (v : Int32) : vc xs zH_148 (n + 1) b d 148 132 ml [.int v] t Q = ((v = 0 ∨ v = 1) ∧ Q (some (.int v)) t) := by
  rw [vc_q (o := (41, 0, 0, 0, [])) (by decide +kernel)]; rfl
def zH_149 : List Nat := [2]
theorem v_149_0 (xs : Option (List Int32)) (n : Nat) (b : Bool) (d : Nat) (ml : List Value) (t : T) (Q : Option Value → T → Prop) (st : List Value) : vc xs zH_149 (n + 1) b d 149 0 ml st t Q = vc xs zH_149 n true d 149 1 ml (.int 0 :: st) t Q := by
  rw [vc_q (o := (0, 0, 0, 0, [])) (by decide +kernel)]; rfl
theorem v_149_1 (xs : Option (List Int32)) (n : Nat) (b : Bool) (d : Nat) (ml : List Value) (t : T) (Q : Option Value → T → Prop) (v : Int32) (r : List Value) : vc xs zH_149 (n + 1) b d 149 1 ml (.int v :: r) t Q = vset ml 2 (.int v) (fun l => vc xs zH_149 n true d 149 2 l r t Q) := by
  rw [vc_q (o := (3, 0, 2, 0, [])) (by decide +kernel)]; rfl
theorem v_149_2 (xs : Option (List Int32)) (n : Nat) (d : Nat) (ml : List Value) (t : T) (Q : Option Value → T → Prop) (st : List Value) : vc xs zH_149 (n + 1) false d 149 2 ml st t Q = vgi ml 2 (fun v => vc xs zH_149 n true d 149 3 ml (.int v :: st) t Q) := by
  rw [vc_q (o := (1, 0, 2, 0, [])) (by decide +kernel)]; rfl
theorem h_149_2 (xs : Option (List Int32)) (n d : Nat) (ml st : List Value) (t : T) (Q : Option Value → T → Prop) : vc xs zH_149 (n + 1) true d 149 2 ml st t Q = twp xs d 149 2 ml st t Q := id rfl
theorem v_149_3 (xs : Option (List Int32)) (n : Nat) (b : Bool) (d : Nat) (ml : List Value) (t : T) (Q : Option Value → T → Prop) (st : List Value) : vc xs zH_149 (n + 1) b d 149 3 ml st t Q = vga ml 0 (fun v => vc xs zH_149 n true d 149 4 ml (.ref v :: st) t Q) := by
  rw [vc_q (o := (2, 0, 0, 0, [])) (by decide +kernel)]; rfl
theorem v_149_4 (xs : Option (List Int32)) (n : Nat) (b : Bool) (d : Nat) (ml : List Value) (t : T) (Q : Option Value → T → Prop) (u : Nat) (r : List Value) : vc xs zH_149 (n + 1) b d 149 4 ml (.ref u :: r) t Q = (vtag u = 4 ∧ vc xs zH_149 n true d 149 7 ml (.int (t.1 u 0) :: r) t Q) := by
  rw [vc_q (o := (24, 0, 4, 0, [])) (by decide +kernel)]; rfl
theorem v_149_7 (xs : Option (List Int32)) (n : Nat) (b : Bool) (d : Nat) (ml : List Value) (t : T) (Q : Option Value → T → Prop) (u v : Int32) (r : List Value) : vc xs zH_149 (n + 1) b d 149 7 ml (.int v :: .int u :: r) t Q = (if u < v then vc xs zH_149 n true d 149 10 ml r t Q else vc xs zH_149 n true d 149 37 ml r t Q) := by
  rw [vc_q (o := (20, 0, 37, 3, [])) (by decide +kernel)]; rfl
theorem v_149_10 (xs : Option (List Int32)) (n : Nat) (b : Bool) (d : Nat) (ml : List Value) (t : T) (Q : Option Value → T → Prop) (st : List Value) : vc xs zH_149 (n + 1) b d 149 10 ml st t Q = vga ml 0 (fun v => vc xs zH_149 n true d 149 11 ml (.ref v :: st) t Q) := by
  rw [vc_q (o := (2, 0, 0, 0, [])) (by decide +kernel)]; rfl
theorem v_149_11 (xs : Option (List Int32)) (n : Nat) (b : Bool) (d : Nat) (ml : List Value) (t : T) (Q : Option Value → T → Prop) (st : List Value) : vc xs zH_149 (n + 1) b d 149 11 ml st t Q = vgi ml 1 (fun v => vc xs zH_149 n true d 149 12 ml (.int v :: st) t Q) := by
  rw [vc_q (o := (1, 0, 1, 0, [])) (by decide +kernel)]; rfl
theorem v_149_12 (xs : Option (List Int32)) (n : Nat) (b : Bool) (d : Nat) (ml : List Value) (t : T) (Q : Option Value → T → Prop) (st : List Value) : vc xs zH_149 (n + 1) b d 149 12 ml st t Q = vgi ml 2 (fun v => vc xs zH_149 n true d 149 13 ml (.int v :: st) t Q) := by
  rw [vc_q (o := (1, 0, 2, 0, [])) (by decide +kernel)]; rfl
theorem v_149_13 (xs : Option (List Int32)) (n : Nat) (b : Bool) (d : Nat) (ml : List Value) (t : T) (Q : Option Value → T → Prop) (st : List Value) : vc xs zH_149 (n + 1) b d 149 13 ml st t Q = vc xs zH_149 n true d 149 14 ml (.int 0 :: st) t Q := by
  rw [vc_q (o := (0, 0, 0, 0, [])) (by decide +kernel)]; rfl
theorem v_149_14 (xs : Option (List Int32)) (n : Nat) (b : Bool) (d : Nat) (ml : List Value) (t : T) (Q : Option Value → T → Prop) (st : List Value) : vc xs zH_149 (n + 1) b d 149 14 ml st t Q = (st.all zc1 = true ∧ vtk 4 st [] (fun as rest => rest.length ≤ 8 ∧ vrc as 4 (twc d 162 as t (fun r t' => vc xs zH_149 n true d 149 17 ml (r.toList ++ rest) t' Q)))) := by
  rw [vc_q (o := (36, 0, 162, 3, [(0, 4)])) (by decide +kernel)]; rfl
theorem v_149_17 (xs : Option (List Int32)) (n : Nat) (b : Bool) (d : Nat) (ml : List Value) (t : T) (Q : Option Value → T → Prop) (st : List Value) : vc xs zH_149 (n + 1) b d 149 17 ml st t Q = vc xs zH_149 n true d 149 18 ml (.int 1 :: st) t Q := by
  rw [vc_q (o := (0, 1, 0, 0, [])) (by decide +kernel)]; rfl
theorem v_149_18 (xs : Option (List Int32)) (n : Nat) (b : Bool) (d : Nat) (ml : List Value) (t : T) (Q : Option Value → T → Prop) (u v : Int32) (r : List Value) : vc xs zH_149 (n + 1) b d 149 18 ml (.int v :: .int u :: r) t Q = (if u = v then vc xs zH_149 n true d 149 21 ml r t Q else vc xs zH_149 n true d 149 31 ml r t Q) := by
  rw [vc_q (o := (20, 0, 31, 1, [])) (by decide +kernel)]; rfl
theorem v_149_21 (xs : Option (List Int32)) (n : Nat) (b : Bool) (d : Nat) (ml : List Value) (t : T) (Q : Option Value → T → Prop) (st : List Value) : vc xs zH_149 (n + 1) b d 149 21 ml st t Q = vga ml 0 (fun v => vc xs zH_149 n true d 149 22 ml (.ref v :: st) t Q) := by
  rw [vc_q (o := (2, 0, 0, 0, [])) (by decide +kernel)]; rfl
theorem v_149_22 (xs : Option (List Int32)) (n : Nat) (b : Bool) (d : Nat) (ml : List Value) (t : T) (Q : Option Value → T → Prop) (st : List Value) : vc xs zH_149 (n + 1) b d 149 22 ml st t Q = vgi ml 2 (fun v => vc xs zH_149 n true d 149 23 ml (.int v :: st) t Q) := by
  rw [vc_q (o := (1, 0, 2, 0, [])) (by decide +kernel)]; rfl
theorem v_149_23 (xs : Option (List Int32)) (n : Nat) (b : Bool) (d : Nat) (ml : List Value) (t : T) (Q : Option Value → T → Prop) (st : List Value) : vc xs zH_149 (n + 1) b d 149 23 ml st t Q = (st.all zc1 = true ∧ vtk 2 st [] (fun as rest => rest.length ≤ 8 ∧ vrc as 4 (twc d 165 as t (fun r t' => vc xs zH_149 n true d 149 26 ml (r.toList ++ rest) t' Q)))) := by
  rw [vc_q (o := (36, 0, 165, 1, [(0, 4)])) (by decide +kernel)]; rfl
theorem v_149_26 (xs : Option (List Int32)) (n : Nat) (b : Bool) (d : Nat) (ml : List Value) (t : T) (Q : Option Value → T → Prop) (u : Int32) (r : List Value) : vc xs zH_149 (n + 1) b d 149 26 ml (.int u :: r) t Q = (if u = 0 then vc xs zH_149 n true d 149 29 ml r t Q else vc xs zH_149 n true d 149 31 ml r t Q) := by
  rw [vc_q (o := (21, 0, 31, 1, [])) (by decide +kernel)]; rfl
theorem v_149_29 (xs : Option (List Int32)) (n : Nat) (b : Bool) (d : Nat) (ml : List Value) (t : T) (Q : Option Value → T → Prop) (st : List Value) : vc xs zH_149 (n + 1) b d 149 29 ml st t Q = vgi ml 2 (fun v => vc xs zH_149 n true d 149 30 ml (.int v :: st) t Q) := by
  rw [vc_q (o := (1, 0, 2, 0, [])) (by decide +kernel)]; rfl
theorem v_149_30 (xs : Option (List Int32)) (n : Nat) (b : Bool) (d : Nat) (ml : List Value) (t : T) (Q : Option Value → T → Prop) (v : Int32) : vc xs zH_149 (n + 1) b d 149 30 ml [.int v] t Q = Q (some (.int v)) t := by
  rw [vc_q (o := (40, 0, 0, 0, [])) (by decide +kernel)]; rfl
theorem v_149_31 (xs : Option (List Int32)) (n : Nat) (b : Bool) (d : Nat) (ml : List Value) (t : T) (Q : Option Value → T → Prop) (st : List Value) : vc xs zH_149 (n + 1) b d 149 31 ml st t Q = vgi ml 2 (fun v => vset ml 2 (.int (v + 1)) (fun l => vc xs zH_149 n true d 149 34 l st t Q)) := by
  rw [vc_q (o := (5, 1, 2, 0, [])) (by decide +kernel)]; rfl
theorem v_149_34 (xs : Option (List Int32)) (n : Nat) (b : Bool) (d : Nat) (ml : List Value) (t : T) (Q : Option Value → T → Prop) (st : List Value) : vc xs zH_149 (n + 1) b d 149 34 ml st t Q = vc xs zH_149 n true d 149 2 ml st t Q := by
  rw [vc_q (o := (22, 0, 2, 0, [])) (by decide +kernel)]; rfl
theorem v_149_37 (xs : Option (List Int32)) (n : Nat) (b : Bool) (d : Nat) (ml : List Value) (t : T) (Q : Option Value → T → Prop) (st : List Value) : vc xs zH_149 (n + 1) b d 149 37 ml st t Q = vc xs zH_149 n true d 149 38 ml (.int (-1) :: st) t Q := by
  rw [vc_q (o := (0, (-1), 0, 0, [])) (by decide +kernel)]; rfl
theorem v_149_38 (xs : Option (List Int32)) (n : Nat) (b : Bool) (d : Nat) (ml : List Value) (t : T) (Q : Option Value → T → Prop) (v : Int32) : vc xs zH_149 (n + 1) b d 149 38 ml [.int v] t Q = Q (some (.int v)) t := by
  rw [vc_q (o := (40, 0, 0, 0, [])) (by decide +kernel)]; rfl
def zH_150 : List Nat := []
theorem v_150_0 (xs : Option (List Int32)) (n : Nat) (b : Bool) (d : Nat) (ml : List Value) (t : T) (Q : Option Value → T → Prop) (st : List Value) : vc xs zH_150 (n + 1) b d 150 0 ml st t Q = vgi ml 0 (fun v => vc xs zH_150 n true d 150 1 ml (.int v :: st) t Q) := by
  rw [vc_q (o := (1, 0, 0, 0, [])) (by decide +kernel)]; rfl
theorem v_150_1 (xs : Option (List Int32)) (n : Nat) (b : Bool) (d : Nat) (ml : List Value) (t : T) (Q : Option Value → T → Prop) (st : List Value) : vc xs zH_150 (n + 1) b d 150 1 ml st t Q = vc xs zH_150 n true d 150 3 ml (.int 6 :: st) t Q := by
  rw [vc_q (o := (0, 6, 1, 0, [])) (by decide +kernel)]; rfl
theorem v_150_3 (xs : Option (List Int32)) (n : Nat) (b : Bool) (d : Nat) (ml : List Value) (t : T) (Q : Option Value → T → Prop) (u v : Int32) (r : List Value) : vc xs zH_150 (n + 1) b d 150 3 ml (.int v :: .int u :: r) t Q = (if u < v then vc xs zH_150 n true d 150 6 ml r t Q else vc xs zH_150 n true d 150 15 ml r t Q) := by
  rw [vc_q (o := (20, 0, 15, 3, [])) (by decide +kernel)]; rfl
theorem v_150_6 (xs : Option (List Int32)) (n : Nat) (b : Bool) (d : Nat) (ml : List Value) (t : T) (Q : Option Value → T → Prop) (st : List Value) : vc xs zH_150 (n + 1) b d 150 6 ml st t Q = vgi ml 0 (fun v => vc xs zH_150 n true d 150 7 ml (.int v :: st) t Q) := by
  rw [vc_q (o := (1, 0, 0, 0, [])) (by decide +kernel)]; rfl
theorem v_150_7 (xs : Option (List Int32)) (n : Nat) (b : Bool) (d : Nat) (ml : List Value) (t : T) (Q : Option Value → T → Prop) (st : List Value) : vc xs zH_150 (n + 1) b d 150 7 ml st t Q = vgi ml 2 (fun v => vc xs zH_150 n true d 150 8 ml (.int v :: st) t Q) := by
  rw [vc_q (o := (1, 0, 2, 0, [])) (by decide +kernel)]; rfl
theorem v_150_8 (xs : Option (List Int32)) (n : Nat) (b : Bool) (d : Nat) (ml : List Value) (t : T) (Q : Option Value → T → Prop) (st : List Value) : vc xs zH_150 (n + 1) b d 150 8 ml st t Q = vc xs zH_150 n true d 150 9 ml (.int 0 :: st) t Q := by
  rw [vc_q (o := (0, 0, 0, 0, [])) (by decide +kernel)]; rfl
theorem v_150_9 (xs : Option (List Int32)) (n : Nat) (b : Bool) (d : Nat) (ml : List Value) (t : T) (Q : Option Value → T → Prop) (st : List Value) : vc xs zH_150 (n + 1) b d 150 9 ml st t Q = (st.all zc1 = true ∧ vtk 3 st [] (fun as rest => rest.length ≤ 8 ∧ twc d 161 as t (fun r t' => vc xs zH_150 n true d 150 12 ml (r.toList ++ rest) t' Q))) := by
  rw [vc_q (o := (37, 0, 161, 3, [])) (by decide +kernel)]; rfl
theorem v_150_12 (xs : Option (List Int32)) (n : Nat) (b : Bool) (d : Nat) (ml : List Value) (t : T) (Q : Option Value → T → Prop) (st : List Value) : vc xs zH_150 (n + 1) b d 150 12 ml st t Q = vc xs zH_150 n true d 150 21 ml st t Q := by
  rw [vc_q (o := (22, 0, 21, 0, [])) (by decide +kernel)]; rfl
theorem v_150_15 (xs : Option (List Int32)) (n : Nat) (b : Bool) (d : Nat) (ml : List Value) (t : T) (Q : Option Value → T → Prop) (st : List Value) : vc xs zH_150 (n + 1) b d 150 15 ml st t Q = vgi ml 0 (fun v => vc xs zH_150 n true d 150 16 ml (.int v :: st) t Q) := by
  rw [vc_q (o := (1, 0, 0, 0, [])) (by decide +kernel)]; rfl
theorem v_150_16 (xs : Option (List Int32)) (n : Nat) (b : Bool) (d : Nat) (ml : List Value) (t : T) (Q : Option Value → T → Prop) (st : List Value) : vc xs zH_150 (n + 1) b d 150 16 ml st t Q = vgi ml 1 (fun v => vc xs zH_150 n true d 150 17 ml (.int v :: st) t Q) := by
  rw [vc_q (o := (1, 0, 1, 0, [])) (by decide +kernel)]; rfl
theorem v_150_17 (xs : Option (List Int32)) (n : Nat) (b : Bool) (d : Nat) (ml : List Value) (t : T) (Q : Option Value → T → Prop) (st : List Value) : vc xs zH_150 (n + 1) b d 150 17 ml st t Q = vgi ml 2 (fun v => vc xs zH_150 n true d 150 18 ml (.int v :: st) t Q) := by
  rw [vc_q (o := (1, 0, 2, 0, [])) (by decide +kernel)]; rfl
theorem v_150_18 (xs : Option (List Int32)) (n : Nat) (b : Bool) (d : Nat) (ml : List Value) (t : T) (Q : Option Value → T → Prop) (st : List Value) : vc xs zH_150 (n + 1) b d 150 18 ml st t Q = (st.all zc1 = true ∧ vtk 3 st [] (fun as rest => rest.length ≤ 8 ∧ twc d 161 as t (fun r t' => vc xs zH_150 n true d 150 21 ml (r.toList ++ rest) t' Q))) := by
  rw [vc_q (o := (37, 0, 161, 3, [])) (by decide +kernel)]; rfl
theorem v_150_21 (xs : Option (List Int32)) (n : Nat) (b : Bool) (d : Nat) (ml : List Value) (t : T) (Q : Option Value → T → Prop) (v : Int32) : vc xs zH_150 (n + 1) b d 150 21 ml [.int v] t Q = Q (some (.int v)) t := by
  rw [vc_q (o := (40, 0, 0, 0, [])) (by decide +kernel)]; rfl
def zH_151 : List Nat := [117]
theorem v_151_0 (xs : Option (List Int32)) (n : Nat) (b : Bool) (d : Nat) (ml : List Value) (t : T) (Q : Option Value → T → Prop) (st : List Value) : vc xs zH_151 (n + 1) b d 151 0 ml st t Q = vgi ml 2 (fun v => vc xs zH_151 n true d 151 1 ml (.int v :: st) t Q) := by
  rw [vc_q (o := (1, 0, 2, 0, [])) (by decide +kernel)]; rfl
theorem v_151_1 (xs : Option (List Int32)) (n : Nat) (b : Bool) (d : Nat) (ml : List Value) (t : T) (Q : Option Value → T → Prop) (st : List Value) : vc xs zH_151 (n + 1) b d 151 1 ml st t Q = vgi ml 3 (fun v => vc xs zH_151 n true d 151 2 ml (.int v :: st) t Q) := by
  rw [vc_q (o := (1, 0, 3, 0, [])) (by decide +kernel)]; rfl
theorem v_151_2 (xs : Option (List Int32)) (n : Nat) (b : Bool) (d : Nat) (ml : List Value) (t : T) (Q : Option Value → T → Prop) (st : List Value) : vc xs zH_151 (n + 1) b d 151 2 ml st t Q = vgi ml 4 (fun v => vc xs zH_151 n true d 151 4 ml (.int v :: st) t Q) := by
  rw [vc_q (o := (1, 0, 4, 1, [])) (by decide +kernel)]; rfl
theorem v_151_4 (xs : Option (List Int32)) (n : Nat) (b : Bool) (d : Nat) (ml : List Value) (t : T) (Q : Option Value → T → Prop) (st : List Value) : vc xs zH_151 (n + 1) b d 151 4 ml st t Q = (st.all zc1 = true ∧ vtk 3 st [] (fun as rest => rest.length ≤ 8 ∧ twc d 150 as t (fun r t' => vc xs zH_151 n true d 151 7 ml (r.toList ++ rest) t' Q))) := by
  rw [vc_q (o := (37, 0, 150, 3, [])) (by decide +kernel)]; rfl
theorem v_151_7 (xs : Option (List Int32)) (n : Nat) (b : Bool) (d : Nat) (ml : List Value) (t : T) (Q : Option Value → T → Prop) (v : Int32) (r : List Value) : vc xs zH_151 (n + 1) b d 151 7 ml (.int v :: r) t Q = vset ml 5 (.int v) (fun l => vc xs zH_151 n true d 151 9 l r t Q) := by
  rw [vc_q (o := (3, 0, 5, 1, [])) (by decide +kernel)]; rfl
theorem v_151_9 (xs : Option (List Int32)) (n : Nat) (b : Bool) (d : Nat) (ml : List Value) (t : T) (Q : Option Value → T → Prop) (st : List Value) : vc xs zH_151 (n + 1) b d 151 9 ml st t Q = vga ml 1 (fun v => vc xs zH_151 n true d 151 10 ml (.ref v :: st) t Q) := by
  rw [vc_q (o := (2, 0, 1, 0, [])) (by decide +kernel)]; rfl
theorem v_151_10 (xs : Option (List Int32)) (n : Nat) (b : Bool) (d : Nat) (ml : List Value) (t : T) (Q : Option Value → T → Prop) (st : List Value) : vc xs zH_151 (n + 1) b d 151 10 ml st t Q = vgi ml 4 (fun v => vc xs zH_151 n true d 151 12 ml (.int v :: st) t Q) := by
  rw [vc_q (o := (1, 0, 4, 1, [])) (by decide +kernel)]; rfl
theorem v_151_12 (xs : Option (List Int32)) (n : Nat) (b : Bool) (d : Nat) (ml : List Value) (t : T) (Q : Option Value → T → Prop) (st : List Value) : vc xs zH_151 (n + 1) b d 151 12 ml st t Q = (st.all zc1 = true ∧ vtk 2 st [] (fun as rest => rest.length ≤ 8 ∧ vrc as 4 (twc d 165 as t (fun r t' => vc xs zH_151 n true d 151 15 ml (r.toList ++ rest) t' Q)))) := by
  rw [vc_q (o := (36, 0, 165, 1, [(0, 4)])) (by decide +kernel)]; rfl
theorem v_151_15 (xs : Option (List Int32)) (n : Nat) (b : Bool) (d : Nat) (ml : List Value) (t : T) (Q : Option Value → T → Prop) (v : Int32) (r : List Value) : vc xs zH_151 (n + 1) b d 151 15 ml (.int v :: r) t Q = vset ml 6 (.int v) (fun l => vc xs zH_151 n true d 151 17 l r t Q) := by
  rw [vc_q (o := (3, 0, 6, 1, [])) (by decide +kernel)]; rfl
theorem v_151_17 (xs : Option (List Int32)) (n : Nat) (b : Bool) (d : Nat) (ml : List Value) (t : T) (Q : Option Value → T → Prop) (st : List Value) : vc xs zH_151 (n + 1) b d 151 17 ml st t Q = vgi ml 6 (fun v => vc xs zH_151 n true d 151 19 ml (.int v :: st) t Q) := by
  rw [vc_q (o := (1, 0, 6, 1, [])) (by decide +kernel)]; rfl
theorem v_151_19 (xs : Option (List Int32)) (n : Nat) (b : Bool) (d : Nat) (ml : List Value) (t : T) (Q : Option Value → T → Prop) (u : Int32) (r : List Value) : vc xs zH_151 (n + 1) b d 151 19 ml (.int u :: r) t Q = (if u = 0 then vc xs zH_151 n true d 151 31 ml r t Q else vc xs zH_151 n true d 151 22 ml r t Q) := by
  rw [vc_q (o := (21, 0, 31, 0, [])) (by decide +kernel)]; rfl
theorem v_151_22 (xs : Option (List Int32)) (n : Nat) (b : Bool) (d : Nat) (ml : List Value) (t : T) (Q : Option Value → T → Prop) (st : List Value) : vc xs zH_151 (n + 1) b d 151 22 ml st t Q = vga ml 1 (fun v => vc xs zH_151 n true d 151 23 ml (.ref v :: st) t Q) := by
  rw [vc_q (o := (2, 0, 1, 0, [])) (by decide +kernel)]; rfl
theorem v_151_23 (xs : Option (List Int32)) (n : Nat) (b : Bool) (d : Nat) (ml : List Value) (t : T) (Q : Option Value → T → Prop) (u : Nat) (r : List Value) : vc xs zH_151 (n + 1) b d 151 23 ml (.ref u :: r) t Q = (vtag u = 4 ∧ vc xs zH_151 n true d 151 26 ml (.int (t.1 u 0) :: r) t Q) := by
  rw [vc_q (o := (24, 0, 4, 0, [])) (by decide +kernel)]; rfl
theorem v_151_26 (xs : Option (List Int32)) (n : Nat) (b : Bool) (d : Nat) (ml : List Value) (t : T) (Q : Option Value → T → Prop) (st : List Value) : vc xs zH_151 (n + 1) b d 151 26 ml st t Q = vc xs zH_151 n true d 151 28 ml (.int 6 :: st) t Q := by
  rw [vc_q (o := (0, 6, 1, 0, [])) (by decide +kernel)]; rfl
theorem v_151_28 (xs : Option (List Int32)) (n : Nat) (b : Bool) (d : Nat) (ml : List Value) (t : T) (Q : Option Value → T → Prop) (u v : Int32) (r : List Value) : vc xs zH_151 (n + 1) b d 151 28 ml (.int v :: .int u :: r) t Q = (if u = v then vc xs zH_151 n true d 151 51 ml r t Q else vc xs zH_151 n true d 151 31 ml r t Q) := by
  rw [vc_q (o := (20, 0, 51, 0, [])) (by decide +kernel)]; rfl
theorem v_151_31 (xs : Option (List Int32)) (n : Nat) (b : Bool) (d : Nat) (ml : List Value) (t : T) (Q : Option Value → T → Prop) (st : List Value) : vc xs zH_151 (n + 1) b d 151 31 ml st t Q = vga ml 0 (fun v => vc xs zH_151 n true d 151 32 ml (.ref v :: st) t Q) := by
  rw [vc_q (o := (2, 0, 0, 0, [])) (by decide +kernel)]; rfl
theorem v_151_32 (xs : Option (List Int32)) (n : Nat) (b : Bool) (d : Nat) (ml : List Value) (t : T) (Q : Option Value → T → Prop) (u : Nat) (r : List Value) : vc xs zH_151 (n + 1) b d 151 32 ml (.ref u :: r) t Q = (vtag u = 7 ∧ vc xs zH_151 n true d 151 35 ml (.ref (tref t u 3) :: r) t Q) := by
  rw [vc_q (o := (25, 0, 7, 3, [])) (by decide +kernel)]; rfl
theorem v_151_35 (xs : Option (List Int32)) (n : Nat) (b : Bool) (d : Nat) (ml : List Value) (t : T) (Q : Option Value → T → Prop) (st : List Value) : vc xs zH_151 (n + 1) b d 151 35 ml st t Q = vgi ml 6 (fun v => vc xs zH_151 n true d 151 37 ml (.int v :: st) t Q) := by
  rw [vc_q (o := (1, 0, 6, 1, [])) (by decide +kernel)]; rfl
theorem v_151_37 (xs : Option (List Int32)) (n : Nat) (b : Bool) (d : Nat) (ml : List Value) (t : T) (Q : Option Value → T → Prop) (u : Int32) (r : List Value) : vc xs zH_151 (n + 1) b d 151 37 ml (.int u :: r) t Q = (if u = 0 then vc xs zH_151 n true d 151 44 ml r t Q else vc xs zH_151 n true d 151 40 ml r t Q) := by
  rw [vc_q (o := (21, 0, 44, 0, [])) (by decide +kernel)]; rfl
theorem v_151_40 (xs : Option (List Int32)) (n : Nat) (b : Bool) (d : Nat) (ml : List Value) (t : T) (Q : Option Value → T → Prop) (st : List Value) : vc xs zH_151 (n + 1) b d 151 40 ml st t Q = vc xs zH_151 n true d 151 41 ml (.int 2 :: st) t Q := by
  rw [vc_q (o := (0, 2, 0, 0, [])) (by decide +kernel)]; rfl
theorem v_151_41 (xs : Option (List Int32)) (n : Nat) (b : Bool) (d : Nat) (ml : List Value) (t : T) (Q : Option Value → T → Prop) (st : List Value) : vc xs zH_151 (n + 1) b d 151 41 ml st t Q = vc xs zH_151 n true d 151 45 ml st t Q := by
  rw [vc_q (o := (22, 0, 45, 0, [])) (by decide +kernel)]; rfl
theorem v_151_44 (xs : Option (List Int32)) (n : Nat) (b : Bool) (d : Nat) (ml : List Value) (t : T) (Q : Option Value → T → Prop) (st : List Value) : vc xs zH_151 (n + 1) b d 151 44 ml st t Q = vc xs zH_151 n true d 151 45 ml (.int 1 :: st) t Q := by
  rw [vc_q (o := (0, 1, 0, 0, [])) (by decide +kernel)]; rfl
theorem v_151_45 (xs : Option (List Int32)) (n : Nat) (b : Bool) (d : Nat) (ml : List Value) (t : T) (Q : Option Value → T → Prop) (st : List Value) : vc xs zH_151 (n + 1) b d 151 45 ml st t Q = (st.all zc1 = true ∧ vtk 2 st [] (fun as rest => rest.length ≤ 8 ∧ vrc as 8 (twc d 105 as t (fun r t' => vc xs zH_151 n true d 151 48 ml (r.toList ++ rest) t' Q)))) := by
  rw [vc_q (o := (36, 0, 105, 1, [(0, 8)])) (by decide +kernel)]; rfl
theorem v_151_48 (xs : Option (List Int32)) (n : Nat) (b : Bool) (d : Nat) (ml : List Value) (t : T) (Q : Option Value → T → Prop) (u : Int32) (r : List Value) : vc xs zH_151 (n + 1) b d 151 48 ml (.int u :: r) t Q = (if u = 0 then vc xs zH_151 n true d 151 51 ml r t Q else vc xs zH_151 n true d 151 53 ml r t Q) := by
  rw [vc_q (o := (21, 0, 53, 1, [])) (by decide +kernel)]; rfl
theorem v_151_51 (xs : Option (List Int32)) (n : Nat) (b : Bool) (d : Nat) (ml : List Value) (t : T) (Q : Option Value → T → Prop) (st : List Value) : vc xs zH_151 (n + 1) b d 151 51 ml st t Q = vc xs zH_151 n true d 151 52 ml (.int 0 :: st) t Q := by
  rw [vc_q (o := (0, 0, 0, 0, [])) (by decide +kernel)]; rfl
theorem v_151_52 (xs : Option (List Int32)) (n : Nat) (b : Bool) (d : Nat) (ml : List Value) (t : T) (Q : Option Value → T → Prop) (v : Int32) : vc xs zH_151 (n + 1) b d 151 52 ml [.int v] t Q = ((v = 0 ∨ v = 1) ∧ Q (some (.int v)) t) := by
  rw [vc_q (o := (41, 0, 0, 0, [])) (by decide +kernel)]; rfl
theorem v_151_53 (xs : Option (List Int32)) (n : Nat) (b : Bool) (d : Nat) (ml : List Value) (t : T) (Q : Option Value → T → Prop) (st : List Value) : vc xs zH_151 (n + 1) b d 151 53 ml st t Q = vga ml 1 (fun v => vc xs zH_151 n true d 151 54 ml (.ref v :: st) t Q) := by
  rw [vc_q (o := (2, 0, 1, 0, [])) (by decide +kernel)]; rfl
theorem v_151_54 (xs : Option (List Int32)) (n : Nat) (b : Bool) (d : Nat) (ml : List Value) (t : T) (Q : Option Value → T → Prop) (u : Nat) (r : List Value) : vc xs zH_151 (n + 1) b d 151 54 ml (.ref u :: r) t Q = (vtag u = 4 ∧ vc xs zH_151 n true d 151 57 ml (.ref (tref t u 1) :: r) t Q) := by
  rw [vc_q (o := (25, 0, 4, 1, [])) (by decide +kernel)]; rfl
theorem v_151_57 (xs : Option (List Int32)) (n : Nat) (b : Bool) (d : Nat) (ml : List Value) (t : T) (Q : Option Value → T → Prop) (st : List Value) : vc xs zH_151 (n + 1) b d 151 57 ml st t Q = vgi ml 5 (fun v => vc xs zH_151 n true d 151 59 ml (.int v :: st) t Q) := by
  rw [vc_q (o := (1, 0, 5, 1, [])) (by decide +kernel)]; rfl
theorem v_151_59 (xs : Option (List Int32)) (n : Nat) (b : Bool) (d : Nat) (ml : List Value) (t : T) (Q : Option Value → T → Prop) (st : List Value) : vc xs zH_151 (n + 1) b d 151 59 ml st t Q = vc xs zH_151 n true d 151 60 ml (.int 0 :: st) t Q := by
  rw [vc_q (o := (0, 0, 0, 0, [])) (by decide +kernel)]; rfl
theorem v_151_60 (xs : Option (List Int32)) (n : Nat) (b : Bool) (d : Nat) (ml : List Value) (t : T) (Q : Option Value → T → Prop) (w v : Int32) (u : Nat) (r : List Value) : vc xs zH_151 (n + 1) b d 151 60 ml (.int w :: .int v :: .ref u :: r) t Q = (vtag u = 100 ∧ vinb v (vlen u) ∧ vc xs zH_151 n true d 151 61 ml r (tsi t u v.toNatClampNeg w) Q) := by
  rw [vc_q (o := (32, 0, 0, 0, [])) (by decide +kernel)]; rfl
theorem v_151_61 (xs : Option (List Int32)) (n : Nat) (b : Bool) (d : Nat) (ml : List Value) (t : T) (Q : Option Value → T → Prop) (st : List Value) : vc xs zH_151 (n + 1) b d 151 61 ml st t Q = vga ml 0 (fun v => vc xs zH_151 n true d 151 62 ml (.ref v :: st) t Q) := by
  rw [vc_q (o := (2, 0, 0, 0, [])) (by decide +kernel)]; rfl
theorem v_151_62 (xs : Option (List Int32)) (n : Nat) (b : Bool) (d : Nat) (ml : List Value) (t : T) (Q : Option Value → T → Prop) (u : Nat) (r : List Value) : vc xs zH_151 (n + 1) b d 151 62 ml (.ref u :: r) t Q = (vtag u = 7 ∧ vc xs zH_151 n true d 151 65 ml (.ref (tref t u 3) :: r) t Q) := by
  rw [vc_q (o := (25, 0, 7, 3, [])) (by decide +kernel)]; rfl
theorem v_151_65 (xs : Option (List Int32)) (n : Nat) (b : Bool) (d : Nat) (ml : List Value) (t : T) (Q : Option Value → T → Prop) (st : List Value) : vc xs zH_151 (n + 1) b d 151 65 ml st t Q = vga ml 1 (fun v => vc xs zH_151 n true d 151 66 ml (.ref v :: st) t Q) := by
  rw [vc_q (o := (2, 0, 1, 0, [])) (by decide +kernel)]; rfl
theorem v_151_66 (xs : Option (List Int32)) (n : Nat) (b : Bool) (d : Nat) (ml : List Value) (t : T) (Q : Option Value → T → Prop) (st : List Value) : vc xs zH_151 (n + 1) b d 151 66 ml st t Q = (st.all zc1 = true ∧ vtk 2 st [] (fun as rest => rest.length ≤ 8 ∧ vrc as 8 (twc d 106 as t (fun r t' => vc xs zH_151 n true d 151 69 ml (r.toList ++ rest) t' Q)))) := by
  rw [vc_q (o := (36, 0, 106, 1, [(0, 8)])) (by decide +kernel)]; rfl
theorem v_151_69 (xs : Option (List Int32)) (n : Nat) (b : Bool) (d : Nat) (ml : List Value) (t : T) (Q : Option Value → T → Prop) (u : Nat) (r : List Value) : vc xs zH_151 (n + 1) b d 151 69 ml (.ref u :: r) t Q = (vtag u = 4 ∧ vc xs zH_151 n true d 151 72 ml (.ref (tref t u 1) :: r) t Q) := by
  rw [vc_q (o := (25, 0, 4, 1, [])) (by decide +kernel)]; rfl
theorem v_151_72 (xs : Option (List Int32)) (n : Nat) (b : Bool) (d : Nat) (ml : List Value) (t : T) (Q : Option Value → T → Prop) (st : List Value) : vc xs zH_151 (n + 1) b d 151 72 ml st t Q = vgi ml 5 (fun v => vc xs zH_151 n true d 151 74 ml (.int v :: st) t Q) := by
  rw [vc_q (o := (1, 0, 5, 1, [])) (by decide +kernel)]; rfl
theorem v_151_74 (xs : Option (List Int32)) (n : Nat) (b : Bool) (d : Nat) (ml : List Value) (t : T) (Q : Option Value → T → Prop) (st : List Value) : vc xs zH_151 (n + 1) b d 151 74 ml st t Q = vc xs zH_151 n true d 151 75 ml (.int 1 :: st) t Q := by
  rw [vc_q (o := (0, 1, 0, 0, [])) (by decide +kernel)]; rfl
theorem v_151_75 (xs : Option (List Int32)) (n : Nat) (b : Bool) (d : Nat) (ml : List Value) (t : T) (Q : Option Value → T → Prop) (w v : Int32) (u : Nat) (r : List Value) : vc xs zH_151 (n + 1) b d 151 75 ml (.int w :: .int v :: .ref u :: r) t Q = (vtag u = 100 ∧ vinb v (vlen u) ∧ vc xs zH_151 n true d 151 76 ml r (tsi t u v.toNatClampNeg w) Q) := by
  rw [vc_q (o := (32, 0, 0, 0, [])) (by decide +kernel)]; rfl
theorem v_151_76 (xs : Option (List Int32)) (n : Nat) (b : Bool) (d : Nat) (ml : List Value) (t : T) (Q : Option Value → T → Prop) (st : List Value) : vc xs zH_151 (n + 1) b d 151 76 ml st t Q = vgi ml 6 (fun v => vc xs zH_151 n true d 151 78 ml (.int v :: st) t Q) := by
  rw [vc_q (o := (1, 0, 6, 1, [])) (by decide +kernel)]; rfl
theorem v_151_78 (xs : Option (List Int32)) (n : Nat) (b : Bool) (d : Nat) (ml : List Value) (t : T) (Q : Option Value → T → Prop) (u : Int32) (r : List Value) : vc xs zH_151 (n + 1) b d 151 78 ml (.int u :: r) t Q = (if u = 0 then vc xs zH_151 n true d 151 117 ml r t Q else vc xs zH_151 n true d 151 81 ml r t Q) := by
  rw [vc_q (o := (21, 0, 117, 0, [])) (by decide +kernel)]; rfl
theorem v_151_81 (xs : Option (List Int32)) (n : Nat) (b : Bool) (d : Nat) (ml : List Value) (t : T) (Q : Option Value → T → Prop) (st : List Value) : vc xs zH_151 (n + 1) b d 151 81 ml st t Q = vga ml 0 (fun v => vc xs zH_151 n true d 151 82 ml (.ref v :: st) t Q) := by
  rw [vc_q (o := (2, 0, 0, 0, [])) (by decide +kernel)]; rfl
theorem v_151_82 (xs : Option (List Int32)) (n : Nat) (b : Bool) (d : Nat) (ml : List Value) (t : T) (Q : Option Value → T → Prop) (u : Nat) (r : List Value) : vc xs zH_151 (n + 1) b d 151 82 ml (.ref u :: r) t Q = (vtag u = 7 ∧ vc xs zH_151 n true d 151 85 ml (.ref (tref t u 3) :: r) t Q) := by
  rw [vc_q (o := (25, 0, 7, 3, [])) (by decide +kernel)]; rfl
theorem v_151_85 (xs : Option (List Int32)) (n : Nat) (b : Bool) (d : Nat) (ml : List Value) (t : T) (Q : Option Value → T → Prop) (st : List Value) : vc xs zH_151 (n + 1) b d 151 85 ml st t Q = vga ml 1 (fun v => vc xs zH_151 n true d 151 86 ml (.ref v :: st) t Q) := by
  rw [vc_q (o := (2, 0, 1, 0, [])) (by decide +kernel)]; rfl
theorem v_151_86 (xs : Option (List Int32)) (n : Nat) (b : Bool) (d : Nat) (ml : List Value) (t : T) (Q : Option Value → T → Prop) (st : List Value) : vc xs zH_151 (n + 1) b d 151 86 ml st t Q = (st.all zc1 = true ∧ vtk 2 st [] (fun as rest => rest.length ≤ 8 ∧ vrc as 8 (twc d 106 as t (fun r t' => vc xs zH_151 n true d 151 89 ml (r.toList ++ rest) t' Q)))) := by
  rw [vc_q (o := (36, 0, 106, 1, [(0, 8)])) (by decide +kernel)]; rfl
theorem v_151_89 (xs : Option (List Int32)) (n : Nat) (b : Bool) (d : Nat) (ml : List Value) (t : T) (Q : Option Value → T → Prop) (v : Nat) (r : List Value) : vc xs zH_151 (n + 1) b d 151 89 ml (.ref v :: r) t Q = vset ml 7 (.ref v) (fun l => vc xs zH_151 n true d 151 91 l r t Q) := by
  rw [vc_q (o := (4, 0, 7, 1, [])) (by decide +kernel)]; rfl
theorem v_151_91 (xs : Option (List Int32)) (n : Nat) (b : Bool) (d : Nat) (ml : List Value) (t : T) (Q : Option Value → T → Prop) (st : List Value) : vc xs zH_151 (n + 1) b d 151 91 ml st t Q = vga ml 7 (fun v => vc xs zH_151 n true d 151 93 ml (.ref v :: st) t Q) := by
  rw [vc_q (o := (2, 0, 7, 1, [])) (by decide +kernel)]; rfl
theorem v_151_93 (xs : Option (List Int32)) (n : Nat) (b : Bool) (d : Nat) (ml : List Value) (t : T) (Q : Option Value → T → Prop) (st : List Value) : vc xs zH_151 (n + 1) b d 151 93 ml st t Q = vgi ml 4 (fun v => vc xs zH_151 n true d 151 95 ml (.int v :: st) t Q) := by
  rw [vc_q (o := (1, 0, 4, 1, [])) (by decide +kernel)]; rfl
theorem v_151_95 (xs : Option (List Int32)) (n : Nat) (b : Bool) (d : Nat) (ml : List Value) (t : T) (Q : Option Value → T → Prop) (st : List Value) : vc xs zH_151 (n + 1) b d 151 95 ml st t Q = (st.all zc1 = true ∧ vtk 2 st [] (fun as rest => rest.length ≤ 8 ∧ vrc as 4 (twc d 170 as t (fun r t' => vc xs zH_151 n true d 151 98 ml (r.toList ++ rest) t' Q)))) := by
  rw [vc_q (o := (36, 0, 170, 1, [(0, 4)])) (by decide +kernel)]; rfl
theorem v_151_98 (xs : Option (List Int32)) (n : Nat) (b : Bool) (d : Nat) (ml : List Value) (t : T) (Q : Option Value → T → Prop) (st : List Value) : vc xs zH_151 (n + 1) b d 151 98 ml st t Q = vga ml 7 (fun v => vc xs zH_151 n true d 151 100 ml (.ref v :: st) t Q) := by
  rw [vc_q (o := (2, 0, 7, 1, [])) (by decide +kernel)]; rfl
theorem v_151_100 (xs : Option (List Int32)) (n : Nat) (b : Bool) (d : Nat) (ml : List Value) (t : T) (Q : Option Value → T → Prop) (u : Nat) (r : List Value) : vc xs zH_151 (n + 1) b d 151 100 ml (.ref u :: r) t Q = (vtag u = 4 ∧ vc xs zH_151 n true d 151 103 ml (.ref (tref t u 1) :: r) t Q) := by
  rw [vc_q (o := (25, 0, 4, 1, [])) (by decide +kernel)]; rfl
theorem v_151_103 (xs : Option (List Int32)) (n : Nat) (b : Bool) (d : Nat) (ml : List Value) (t : T) (Q : Option Value → T → Prop) (st : List Value) : vc xs zH_151 (n + 1) b d 151 103 ml st t Q = vgi ml 2 (fun v => vc xs zH_151 n true d 151 104 ml (.int v :: st) t Q) := by
  rw [vc_q (o := (1, 0, 2, 0, [])) (by decide +kernel)]; rfl
theorem v_151_104 (xs : Option (List Int32)) (n : Nat) (b : Bool) (d : Nat) (ml : List Value) (t : T) (Q : Option Value → T → Prop) (st : List Value) : vc xs zH_151 (n + 1) b d 151 104 ml st t Q = vgi ml 3 (fun v => vc xs zH_151 n true d 151 105 ml (.int v :: st) t Q) := by
  rw [vc_q (o := (1, 0, 3, 0, [])) (by decide +kernel)]; rfl
theorem v_151_105 (xs : Option (List Int32)) (n : Nat) (b : Bool) (d : Nat) (ml : List Value) (t : T) (Q : Option Value → T → Prop) (st : List Value) : vc xs zH_151 (n + 1) b d 151 105 ml st t Q = vga ml 7 (fun v => vc xs zH_151 n true d 151 107 ml (.ref v :: st) t Q) := by
  rw [vc_q (o := (2, 0, 7, 1, [])) (by decide +kernel)]; rfl
theorem v_151_107 (xs : Option (List Int32)) (n : Nat) (b : Bool) (d : Nat) (ml : List Value) (t : T) (Q : Option Value → T → Prop) (u : Nat) (r : List Value) : vc xs zH_151 (n + 1) b d 151 107 ml (.ref u :: r) t Q = (vtag u = 4 ∧ vc xs zH_151 n true d 151 110 ml (.int (t.1 u 0) :: r) t Q) := by
  rw [vc_q (o := (24, 0, 4, 0, [])) (by decide +kernel)]; rfl
theorem v_151_110 (xs : Option (List Int32)) (n : Nat) (b : Bool) (d : Nat) (ml : List Value) (t : T) (Q : Option Value → T → Prop) (st : List Value) : vc xs zH_151 (n + 1) b d 151 110 ml st t Q = vc xs zH_151 n true d 151 111 ml (.int 1 :: st) t Q := by
  rw [vc_q (o := (0, 1, 0, 0, [])) (by decide +kernel)]; rfl
theorem v_151_111 (xs : Option (List Int32)) (n : Nat) (b : Bool) (d : Nat) (ml : List Value) (t : T) (Q : Option Value → T → Prop) (u v : Int32) (r : List Value) : vc xs zH_151 (n + 1) b d 151 111 ml (.int v :: .int u :: r) t Q = vc xs zH_151 n true d 151 112 ml (.int (u - v) :: r) t Q := by
  rw [vc_q (o := (7, 0, 0, 0, [])) (by decide +kernel)]; rfl
theorem v_151_112 (xs : Option (List Int32)) (n : Nat) (b : Bool) (d : Nat) (ml : List Value) (t : T) (Q : Option Value → T → Prop) (st : List Value) : vc xs zH_151 (n + 1) b d 151 112 ml st t Q = (st.all zc1 = true ∧ vtk 3 st [] (fun as rest => rest.length ≤ 8 ∧ twc d 150 as t (fun r t' => vc xs zH_151 n true d 151 115 ml (r.toList ++ rest) t' Q))) := by
  rw [vc_q (o := (37, 0, 150, 3, [])) (by decide +kernel)]; rfl
theorem v_151_115 (xs : Option (List Int32)) (n : Nat) (b : Bool) (d : Nat) (ml : List Value) (t : T) (Q : Option Value → T → Prop) (st : List Value) : vc xs zH_151 (n + 1) b d 151 115 ml st t Q = vc xs zH_151 n true d 151 116 ml (.int 1 :: st) t Q := by
  rw [vc_q (o := (0, 1, 0, 0, [])) (by decide +kernel)]; rfl
theorem v_151_116 (xs : Option (List Int32)) (n : Nat) (b : Bool) (d : Nat) (ml : List Value) (t : T) (Q : Option Value → T → Prop) (w v : Int32) (u : Nat) (r : List Value) : vc xs zH_151 (n + 1) b d 151 116 ml (.int w :: .int v :: .ref u :: r) t Q = (vtag u = 100 ∧ vinb v (vlen u) ∧ vc xs zH_151 n true d 151 117 ml r (tsi t u v.toNatClampNeg w) Q) := by
  rw [vc_q (o := (32, 0, 0, 0, [])) (by decide +kernel)]; rfl
theorem v_151_117 (xs : Option (List Int32)) (n : Nat) (d : Nat) (ml : List Value) (t : T) (Q : Option Value → T → Prop) (st : List Value) : vc xs zH_151 (n + 1) false d 151 117 ml st t Q = vc xs zH_151 n true d 151 118 ml (.int 1 :: st) t Q := by
  rw [vc_q (o := (0, 1, 0, 0, [])) (by decide +kernel)]; rfl
theorem h_151_117 (xs : Option (List Int32)) (n d : Nat) (ml st : List Value) (t : T) (Q : Option Value → T → Prop) : vc xs zH_151 (n + 1) true d 151 117 ml st t Q = twp xs d 151 117 ml st t Q := id rfl
theorem v_151_118 (xs : Option (List Int32)) (n : Nat) (b : Bool) (d : Nat) (ml : List Value) (t : T) (Q : Option Value → T → Prop) (v : Int32) : vc xs zH_151 (n + 1) b d 151 118 ml [.int v] t Q = ((v = 0 ∨ v = 1) ∧ Q (some (.int v)) t) := by
  rw [vc_q (o := (41, 0, 0, 0, [])) (by decide +kernel)]; rfl
def zH_152 : List Nat := [21, 79, 89]
theorem v_152_0 (xs : Option (List Int32)) (n : Nat) (b : Bool) (d : Nat) (ml : List Value) (t : T) (Q : Option Value → T → Prop) (st : List Value) : vc xs zH_152 (n + 1) b d 152 0 ml st t Q = vga ml 1 (fun v => vc xs zH_152 n true d 152 1 ml (.ref v :: st) t Q) := by
  rw [vc_q (o := (2, 0, 1, 0, [])) (by decide +kernel)]; rfl
theorem v_152_1 (xs : Option (List Int32)) (n : Nat) (b : Bool) (d : Nat) (ml : List Value) (t : T) (Q : Option Value → T → Prop) (u : Nat) (r : List Value) : vc xs zH_152 (n + 1) b d 152 1 ml (.ref u :: r) t Q = (vtag u = 11 ∧ vc xs zH_152 n true d 152 4 ml (.int (t.1 u 4) :: r) t Q) := by
  rw [vc_q (o := (24, 0, 11, 4, [])) (by decide +kernel)]; rfl
theorem v_152_4 (xs : Option (List Int32)) (n : Nat) (b : Bool) (d : Nat) (ml : List Value) (t : T) (Q : Option Value → T → Prop) (u : Int32) (r : List Value) : vc xs zH_152 (n + 1) b d 152 4 ml (.int u :: r) t Q = (if u = 0 then vc xs zH_152 n true d 152 11 ml r t Q else vc xs zH_152 n true d 152 7 ml r t Q) := by
  rw [vc_q (o := (21, 0, 11, 0, [])) (by decide +kernel)]; rfl
theorem v_152_7 (xs : Option (List Int32)) (n : Nat) (b : Bool) (d : Nat) (ml : List Value) (t : T) (Q : Option Value → T → Prop) (st : List Value) : vc xs zH_152 (n + 1) b d 152 7 ml st t Q = vga ml 2 (fun v => vc xs zH_152 n true d 152 8 ml (.ref v :: st) t Q) := by
  rw [vc_q (o := (2, 0, 2, 0, [])) (by decide +kernel)]; rfl
theorem v_152_8 (xs : Option (List Int32)) (n : Nat) (b : Bool) (d : Nat) (ml : List Value) (t : T) (Q : Option Value → T → Prop) (st : List Value) : vc xs zH_152 (n + 1) b d 152 8 ml st t Q = (st.all zc1 = true ∧ vtk 1 st [] (fun as rest => rest.length ≤ 8 ∧ vrc as 4 (twc d 171 as t (fun r t' => vc xs zH_152 n true d 152 11 ml (r.toList ++ rest) t' Q)))) := by
  rw [vc_q (o := (36, 0, 171, 0, [(0, 4)])) (by decide +kernel)]; rfl
theorem v_152_11 (xs : Option (List Int32)) (n : Nat) (b : Bool) (d : Nat) (ml : List Value) (t : T) (Q : Option Value → T → Prop) (st : List Value) : vc xs zH_152 (n + 1) b d 152 11 ml st t Q = vga ml 0 (fun v => vc xs zH_152 n true d 152 12 ml (.ref v :: st) t Q) := by
  rw [vc_q (o := (2, 0, 0, 0, [])) (by decide +kernel)]; rfl
theorem v_152_12 (xs : Option (List Int32)) (n : Nat) (b : Bool) (d : Nat) (ml : List Value) (t : T) (Q : Option Value → T → Prop) (u : Nat) (r : List Value) : vc xs zH_152 (n + 1) b d 152 12 ml (.ref u :: r) t Q = (vtag u = 7 ∧ vc xs zH_152 n true d 152 15 ml (.ref (tref t u 2) :: r) t Q) := by
  rw [vc_q (o := (25, 0, 7, 2, [])) (by decide +kernel)]; rfl
theorem v_152_15 (xs : Option (List Int32)) (n : Nat) (b : Bool) (d : Nat) (ml : List Value) (t : T) (Q : Option Value → T → Prop) (st : List Value) : vc xs zH_152 (n + 1) b d 152 15 ml st t Q = vga ml 2 (fun v => vc xs zH_152 n true d 152 16 ml (.ref v :: st) t Q) := by
  rw [vc_q (o := (2, 0, 2, 0, [])) (by decide +kernel)]; rfl
theorem v_152_16 (xs : Option (List Int32)) (n : Nat) (b : Bool) (d : Nat) (ml : List Value) (t : T) (Q : Option Value → T → Prop) (st : List Value) : vc xs zH_152 (n + 1) b d 152 16 ml st t Q = (st.all zc1 = true ∧ vtk 2 st [] (fun as rest => rest.length ≤ 8 ∧ vrc as 4 (twc d 168 as t (fun r t' => vc xs zH_152 n true d 152 19 ml (r.toList ++ rest) t' Q)))) := by
  rw [vc_q (o := (36, 0, 168, 1, [(0, 4)])) (by decide +kernel)]; rfl
theorem v_152_19 (xs : Option (List Int32)) (n : Nat) (b : Bool) (d : Nat) (ml : List Value) (t : T) (Q : Option Value → T → Prop) (st : List Value) : vc xs zH_152 (n + 1) b d 152 19 ml st t Q = vc xs zH_152 n true d 152 20 ml (.int 0 :: st) t Q := by
  rw [vc_q (o := (0, 0, 0, 0, [])) (by decide +kernel)]; rfl
theorem v_152_20 (xs : Option (List Int32)) (n : Nat) (b : Bool) (d : Nat) (ml : List Value) (t : T) (Q : Option Value → T → Prop) (v : Int32) (r : List Value) : vc xs zH_152 (n + 1) b d 152 20 ml (.int v :: r) t Q = vset ml 3 (.int v) (fun l => vc xs zH_152 n true d 152 21 l r t Q) := by
  rw [vc_q (o := (3, 0, 3, 0, [])) (by decide +kernel)]; rfl
theorem v_152_21 (xs : Option (List Int32)) (n : Nat) (d : Nat) (ml : List Value) (t : T) (Q : Option Value → T → Prop) (st : List Value) : vc xs zH_152 (n + 1) false d 152 21 ml st t Q = vgi ml 3 (fun v => vc xs zH_152 n true d 152 22 ml (.int v :: st) t Q) := by
  rw [vc_q (o := (1, 0, 3, 0, [])) (by decide +kernel)]; rfl
theorem h_152_21 (xs : Option (List Int32)) (n d : Nat) (ml st : List Value) (t : T) (Q : Option Value → T → Prop) : vc xs zH_152 (n + 1) true d 152 21 ml st t Q = twp xs d 152 21 ml st t Q := id rfl
theorem v_152_22 (xs : Option (List Int32)) (n : Nat) (b : Bool) (d : Nat) (ml : List Value) (t : T) (Q : Option Value → T → Prop) (st : List Value) : vc xs zH_152 (n + 1) b d 152 22 ml st t Q = vga ml 1 (fun v => vc xs zH_152 n true d 152 23 ml (.ref v :: st) t Q) := by
  rw [vc_q (o := (2, 0, 1, 0, [])) (by decide +kernel)]; rfl
theorem v_152_23 (xs : Option (List Int32)) (n : Nat) (b : Bool) (d : Nat) (ml : List Value) (t : T) (Q : Option Value → T → Prop) (u : Nat) (r : List Value) : vc xs zH_152 (n + 1) b d 152 23 ml (.ref u :: r) t Q = (vtag u = 11 ∧ vc xs zH_152 n true d 152 26 ml (.int (t.1 u 6) :: r) t Q) := by
  rw [vc_q (o := (24, 0, 11, 6, [])) (by decide +kernel)]; rfl
theorem v_152_26 (xs : Option (List Int32)) (n : Nat) (b : Bool) (d : Nat) (ml : List Value) (t : T) (Q : Option Value → T → Prop) (u v : Int32) (r : List Value) : vc xs zH_152 (n + 1) b d 152 26 ml (.int v :: .int u :: r) t Q = (if u < v then vc xs zH_152 n true d 152 29 ml r t Q else vc xs zH_152 n true d 152 145 ml r t Q) := by
  rw [vc_q (o := (20, 0, 145, 3, [])) (by decide +kernel)]; rfl
theorem v_152_29 (xs : Option (List Int32)) (n : Nat) (b : Bool) (d : Nat) (ml : List Value) (t : T) (Q : Option Value → T → Prop) (st : List Value) : vc xs zH_152 (n + 1) b d 152 29 ml st t Q = vga ml 1 (fun v => vc xs zH_152 n true d 152 30 ml (.ref v :: st) t Q) := by
  rw [vc_q (o := (2, 0, 1, 0, [])) (by decide +kernel)]; rfl
theorem v_152_30 (xs : Option (List Int32)) (n : Nat) (b : Bool) (d : Nat) (ml : List Value) (t : T) (Q : Option Value → T → Prop) (u : Nat) (r : List Value) : vc xs zH_152 (n + 1) b d 152 30 ml (.ref u :: r) t Q = (vtag u = 11 ∧ vc xs zH_152 n true d 152 33 ml (.ref (tref t u 7) :: r) t Q) := by
  rw [vc_q (o := (25, 0, 11, 7, [])) (by decide +kernel)]; rfl
theorem v_152_33 (xs : Option (List Int32)) (n : Nat) (b : Bool) (d : Nat) (ml : List Value) (t : T) (Q : Option Value → T → Prop) (st : List Value) : vc xs zH_152 (n + 1) b d 152 33 ml st t Q = vgi ml 3 (fun v => vc xs zH_152 n true d 152 34 ml (.int v :: st) t Q) := by
  rw [vc_q (o := (1, 0, 3, 0, [])) (by decide +kernel)]; rfl
theorem v_152_34 (xs : Option (List Int32)) (n : Nat) (b : Bool) (d : Nat) (ml : List Value) (t : T) (Q : Option Value → T → Prop) (v : Int32) (u : Nat) (r : List Value) : vc xs zH_152 (n + 1) b d 152 34 ml (.int v :: .ref u :: r) t Q = (vtag u = 100 ∧ vinb v (vlen u) ∧ vc xs zH_152 n true d 152 35 ml (.int (t.1 u v.toNatClampNeg) :: r) t Q) := by
  rw [vc_q (o := (29, 0, 0, 0, [])) (by decide +kernel)]; rfl
theorem v_152_35 (xs : Option (List Int32)) (n : Nat) (b : Bool) (d : Nat) (ml : List Value) (t : T) (Q : Option Value → T → Prop) (v : Int32) (r : List Value) : vc xs zH_152 (n + 1) b d 152 35 ml (.int v :: r) t Q = vset ml 4 (.int v) (fun l => vc xs zH_152 n true d 152 37 l r t Q) := by
  rw [vc_q (o := (3, 0, 4, 1, [])) (by decide +kernel)]; rfl
theorem v_152_37 (xs : Option (List Int32)) (n : Nat) (b : Bool) (d : Nat) (ml : List Value) (t : T) (Q : Option Value → T → Prop) (st : List Value) : vc xs zH_152 (n + 1) b d 152 37 ml st t Q = vgi ml 4 (fun v => vc xs zH_152 n true d 152 39 ml (.int v :: st) t Q) := by
  rw [vc_q (o := (1, 0, 4, 1, [])) (by decide +kernel)]; rfl
theorem v_152_39 (xs : Option (List Int32)) (n : Nat) (b : Bool) (d : Nat) (ml : List Value) (t : T) (Q : Option Value → T → Prop) (st : List Value) : vc xs zH_152 (n + 1) b d 152 39 ml st t Q = vc xs zH_152 n true d 152 40 ml (.int 2 :: st) t Q := by
  rw [vc_q (o := (0, 2, 0, 0, [])) (by decide +kernel)]; rfl
theorem v_152_40 (xs : Option (List Int32)) (n : Nat) (b : Bool) (d : Nat) (ml : List Value) (t : T) (Q : Option Value → T → Prop) (u v : Int32) (r : List Value) : vc xs zH_152 (n + 1) b d 152 40 ml (.int v :: .int u :: r) t Q = (if u < v then vc xs zH_152 n true d 152 43 ml r t Q else vc xs zH_152 n true d 152 47 ml r t Q) := by
  rw [vc_q (o := (20, 0, 47, 3, [])) (by decide +kernel)]; rfl
theorem v_152_43 (xs : Option (List Int32)) (n : Nat) (b : Bool) (d : Nat) (ml : List Value) (t : T) (Q : Option Value → T → Prop) (st : List Value) : vc xs zH_152 (n + 1) b d 152 43 ml st t Q = vc xs zH_152 n true d 152 44 ml (.int 1 :: st) t Q := by
  rw [vc_q (o := (0, 1, 0, 0, [])) (by decide +kernel)]; rfl
theorem v_152_44 (xs : Option (List Int32)) (n : Nat) (b : Bool) (d : Nat) (ml : List Value) (t : T) (Q : Option Value → T → Prop) (st : List Value) : vc xs zH_152 (n + 1) b d 152 44 ml st t Q = vc xs zH_152 n true d 152 54 ml st t Q := by
  rw [vc_q (o := (22, 0, 54, 0, [])) (by decide +kernel)]; rfl
theorem v_152_47 (xs : Option (List Int32)) (n : Nat) (b : Bool) (d : Nat) (ml : List Value) (t : T) (Q : Option Value → T → Prop) (st : List Value) : vc xs zH_152 (n + 1) b d 152 47 ml st t Q = vga ml 0 (fun v => vc xs zH_152 n true d 152 48 ml (.ref v :: st) t Q) := by
  rw [vc_q (o := (2, 0, 0, 0, [])) (by decide +kernel)]; rfl
theorem v_152_48 (xs : Option (List Int32)) (n : Nat) (b : Bool) (d : Nat) (ml : List Value) (t : T) (Q : Option Value → T → Prop) (u : Nat) (r : List Value) : vc xs zH_152 (n + 1) b d 152 48 ml (.ref u :: r) t Q = (vtag u = 7 ∧ vc xs zH_152 n true d 152 51 ml (.ref (tref t u 2) :: r) t Q) := by
  rw [vc_q (o := (25, 0, 7, 2, [])) (by decide +kernel)]; rfl
theorem v_152_51 (xs : Option (List Int32)) (n : Nat) (b : Bool) (d : Nat) (ml : List Value) (t : T) (Q : Option Value → T → Prop) (u : Nat) (r : List Value) : vc xs zH_152 (n + 1) b d 152 51 ml (.ref u :: r) t Q = (vtag u = 4 ∧ vc xs zH_152 n true d 152 54 ml (.int (t.1 u 0) :: r) t Q) := by
  rw [vc_q (o := (24, 0, 4, 0, [])) (by decide +kernel)]; rfl
theorem v_152_54 (xs : Option (List Int32)) (n : Nat) (b : Bool) (d : Nat) (ml : List Value) (t : T) (Q : Option Value → T → Prop) (v : Int32) (r : List Value) : vc xs zH_152 (n + 1) b d 152 54 ml (.int v :: r) t Q = vset ml 5 (.int v) (fun l => vc xs zH_152 n true d 152 56 l r t Q) := by
  rw [vc_q (o := (3, 0, 5, 1, [])) (by decide +kernel)]; rfl
theorem v_152_56 (xs : Option (List Int32)) (n : Nat) (b : Bool) (d : Nat) (ml : List Value) (t : T) (Q : Option Value → T → Prop) (st : List Value) : vc xs zH_152 (n + 1) b d 152 56 ml st t Q = vgi ml 4 (fun v => vc xs zH_152 n true d 152 58 ml (.int v :: st) t Q) := by
  rw [vc_q (o := (1, 0, 4, 1, [])) (by decide +kernel)]; rfl
theorem v_152_58 (xs : Option (List Int32)) (n : Nat) (b : Bool) (d : Nat) (ml : List Value) (t : T) (Q : Option Value → T → Prop) (st : List Value) : vc xs zH_152 (n + 1) b d 152 58 ml st t Q = vc xs zH_152 n true d 152 60 ml (.int 6 :: st) t Q := by
  rw [vc_q (o := (0, 6, 1, 0, [])) (by decide +kernel)]; rfl
theorem v_152_60 (xs : Option (List Int32)) (n : Nat) (b : Bool) (d : Nat) (ml : List Value) (t : T) (Q : Option Value → T → Prop) (u v : Int32) (r : List Value) : vc xs zH_152 (n + 1) b d 152 60 ml (.int v :: .int u :: r) t Q = (if u < v then vc xs zH_152 n true d 152 63 ml r t Q else vc xs zH_152 n true d 152 67 ml r t Q) := by
  rw [vc_q (o := (20, 0, 67, 3, [])) (by decide +kernel)]; rfl
theorem v_152_63 (xs : Option (List Int32)) (n : Nat) (b : Bool) (d : Nat) (ml : List Value) (t : T) (Q : Option Value → T → Prop) (st : List Value) : vc xs zH_152 (n + 1) b d 152 63 ml st t Q = vc xs zH_152 n true d 152 64 ml (.int 1 :: st) t Q := by
  rw [vc_q (o := (0, 1, 0, 0, [])) (by decide +kernel)]; rfl
theorem v_152_64 (xs : Option (List Int32)) (n : Nat) (b : Bool) (d : Nat) (ml : List Value) (t : T) (Q : Option Value → T → Prop) (st : List Value) : vc xs zH_152 (n + 1) b d 152 64 ml st t Q = vc xs zH_152 n true d 152 74 ml st t Q := by
  rw [vc_q (o := (22, 0, 74, 0, [])) (by decide +kernel)]; rfl
theorem v_152_67 (xs : Option (List Int32)) (n : Nat) (b : Bool) (d : Nat) (ml : List Value) (t : T) (Q : Option Value → T → Prop) (st : List Value) : vc xs zH_152 (n + 1) b d 152 67 ml st t Q = vga ml 0 (fun v => vc xs zH_152 n true d 152 68 ml (.ref v :: st) t Q) := by
  rw [vc_q (o := (2, 0, 0, 0, [])) (by decide +kernel)]; rfl
theorem v_152_68 (xs : Option (List Int32)) (n : Nat) (b : Bool) (d : Nat) (ml : List Value) (t : T) (Q : Option Value → T → Prop) (u : Nat) (r : List Value) : vc xs zH_152 (n + 1) b d 152 68 ml (.ref u :: r) t Q = (vtag u = 7 ∧ vc xs zH_152 n true d 152 71 ml (.ref (tref t u 2) :: r) t Q) := by
  rw [vc_q (o := (25, 0, 7, 2, [])) (by decide +kernel)]; rfl
theorem v_152_71 (xs : Option (List Int32)) (n : Nat) (b : Bool) (d : Nat) (ml : List Value) (t : T) (Q : Option Value → T → Prop) (u : Nat) (r : List Value) : vc xs zH_152 (n + 1) b d 152 71 ml (.ref u :: r) t Q = (vtag u = 4 ∧ vc xs zH_152 n true d 152 74 ml (.int (t.1 u 0) :: r) t Q) := by
  rw [vc_q (o := (24, 0, 4, 0, [])) (by decide +kernel)]; rfl
theorem v_152_74 (xs : Option (List Int32)) (n : Nat) (b : Bool) (d : Nat) (ml : List Value) (t : T) (Q : Option Value → T → Prop) (v : Int32) (r : List Value) : vc xs zH_152 (n + 1) b d 152 74 ml (.int v :: r) t Q = vset ml 6 (.int v) (fun l => vc xs zH_152 n true d 152 76 l r t Q) := by
  rw [vc_q (o := (3, 0, 6, 1, [])) (by decide +kernel)]; rfl
theorem v_152_76 (xs : Option (List Int32)) (n : Nat) (b : Bool) (d : Nat) (ml : List Value) (t : T) (Q : Option Value → T → Prop) (st : List Value) : vc xs zH_152 (n + 1) b d 152 76 ml st t Q = vc xs zH_152 n true d 152 77 ml (.int 0 :: st) t Q := by
  rw [vc_q (o := (0, 0, 0, 0, [])) (by decide +kernel)]; rfl
theorem v_152_77 (xs : Option (List Int32)) (n : Nat) (b : Bool) (d : Nat) (ml : List Value) (t : T) (Q : Option Value → T → Prop) (v : Int32) (r : List Value) : vc xs zH_152 (n + 1) b d 152 77 ml (.int v :: r) t Q = vset ml 7 (.int v) (fun l => vc xs zH_152 n true d 152 79 l r t Q) := by
  rw [vc_q (o := (3, 0, 7, 1, [])) (by decide +kernel)]; rfl
theorem v_152_79 (xs : Option (List Int32)) (n : Nat) (d : Nat) (ml : List Value) (t : T) (Q : Option Value → T → Prop) (st : List Value) : vc xs zH_152 (n + 1) false d 152 79 ml st t Q = vgi ml 7 (fun v => vc xs zH_152 n true d 152 81 ml (.int v :: st) t Q) := by
  rw [vc_q (o := (1, 0, 7, 1, [])) (by decide +kernel)]; rfl
theorem h_152_79 (xs : Option (List Int32)) (n d : Nat) (ml st : List Value) (t : T) (Q : Option Value → T → Prop) : vc xs zH_152 (n + 1) true d 152 79 ml st t Q = twp xs d 152 79 ml st t Q := id rfl
theorem v_152_81 (xs : Option (List Int32)) (n : Nat) (b : Bool) (d : Nat) (ml : List Value) (t : T) (Q : Option Value → T → Prop) (st : List Value) : vc xs zH_152 (n + 1) b d 152 81 ml st t Q = vgi ml 5 (fun v => vc xs zH_152 n true d 152 83 ml (.int v :: st) t Q) := by
  rw [vc_q (o := (1, 0, 5, 1, [])) (by decide +kernel)]; rfl
theorem v_152_83 (xs : Option (List Int32)) (n : Nat) (b : Bool) (d : Nat) (ml : List Value) (t : T) (Q : Option Value → T → Prop) (u v : Int32) (r : List Value) : vc xs zH_152 (n + 1) b d 152 83 ml (.int v :: .int u :: r) t Q = (if u < v then vc xs zH_152 n true d 152 86 ml r t Q else vc xs zH_152 n true d 152 139 ml r t Q) := by
  rw [vc_q (o := (20, 0, 139, 3, [])) (by decide +kernel)]; rfl
theorem v_152_86 (xs : Option (List Int32)) (n : Nat) (b : Bool) (d : Nat) (ml : List Value) (t : T) (Q : Option Value → T → Prop) (st : List Value) : vc xs zH_152 (n + 1) b d 152 86 ml st t Q = vc xs zH_152 n true d 152 87 ml (.int 0 :: st) t Q := by
  rw [vc_q (o := (0, 0, 0, 0, [])) (by decide +kernel)]; rfl
theorem v_152_87 (xs : Option (List Int32)) (n : Nat) (b : Bool) (d : Nat) (ml : List Value) (t : T) (Q : Option Value → T → Prop) (v : Int32) (r : List Value) : vc xs zH_152 (n + 1) b d 152 87 ml (.int v :: r) t Q = vset ml 8 (.int v) (fun l => vc xs zH_152 n true d 152 89 l r t Q) := by
  rw [vc_q (o := (3, 0, 8, 1, [])) (by decide +kernel)]; rfl
theorem v_152_89 (xs : Option (List Int32)) (n : Nat) (d : Nat) (ml : List Value) (t : T) (Q : Option Value → T → Prop) (st : List Value) : vc xs zH_152 (n + 1) false d 152 89 ml st t Q = vgi ml 8 (fun v => vc xs zH_152 n true d 152 91 ml (.int v :: st) t Q) := by
  rw [vc_q (o := (1, 0, 8, 1, [])) (by decide +kernel)]; rfl
theorem h_152_89 (xs : Option (List Int32)) (n d : Nat) (ml st : List Value) (t : T) (Q : Option Value → T → Prop) : vc xs zH_152 (n + 1) true d 152 89 ml st t Q = twp xs d 152 89 ml st t Q := id rfl
theorem v_152_91 (xs : Option (List Int32)) (n : Nat) (b : Bool) (d : Nat) (ml : List Value) (t : T) (Q : Option Value → T → Prop) (st : List Value) : vc xs zH_152 (n + 1) b d 152 91 ml st t Q = vgi ml 6 (fun v => vc xs zH_152 n true d 152 93 ml (.int v :: st) t Q) := by
  rw [vc_q (o := (1, 0, 6, 1, [])) (by decide +kernel)]; rfl
theorem v_152_93 (xs : Option (List Int32)) (n : Nat) (b : Bool) (d : Nat) (ml : List Value) (t : T) (Q : Option Value → T → Prop) (u v : Int32) (r : List Value) : vc xs zH_152 (n + 1) b d 152 93 ml (.int v :: .int u :: r) t Q = (if u < v then vc xs zH_152 n true d 152 96 ml r t Q else vc xs zH_152 n true d 152 133 ml r t Q) := by
  rw [vc_q (o := (20, 0, 133, 3, [])) (by decide +kernel)]; rfl
theorem v_152_96 (xs : Option (List Int32)) (n : Nat) (b : Bool) (d : Nat) (ml : List Value) (t : T) (Q : Option Value → T → Prop) (st : List Value) : vc xs zH_152 (n + 1) b d 152 96 ml st t Q = vga ml 2 (fun v => vc xs zH_152 n true d 152 97 ml (.ref v :: st) t Q) := by
  rw [vc_q (o := (2, 0, 2, 0, [])) (by decide +kernel)]; rfl
theorem v_152_97 (xs : Option (List Int32)) (n : Nat) (b : Bool) (d : Nat) (ml : List Value) (t : T) (Q : Option Value → T → Prop) (st : List Value) : vc xs zH_152 (n + 1) b d 152 97 ml st t Q = vgi ml 4 (fun v => vc xs zH_152 n true d 152 99 ml (.int v :: st) t Q) := by
  rw [vc_q (o := (1, 0, 4, 1, [])) (by decide +kernel)]; rfl
theorem v_152_99 (xs : Option (List Int32)) (n : Nat) (b : Bool) (d : Nat) (ml : List Value) (t : T) (Q : Option Value → T → Prop) (st : List Value) : vc xs zH_152 (n + 1) b d 152 99 ml st t Q = vgi ml 7 (fun v => vc xs zH_152 n true d 152 101 ml (.int v :: st) t Q) := by
  rw [vc_q (o := (1, 0, 7, 1, [])) (by decide +kernel)]; rfl
theorem v_152_101 (xs : Option (List Int32)) (n : Nat) (b : Bool) (d : Nat) (ml : List Value) (t : T) (Q : Option Value → T → Prop) (st : List Value) : vc xs zH_152 (n + 1) b d 152 101 ml st t Q = vgi ml 8 (fun v => vc xs zH_152 n true d 152 103 ml (.int v :: st) t Q) := by
  rw [vc_q (o := (1, 0, 8, 1, [])) (by decide +kernel)]; rfl
theorem v_152_103 (xs : Option (List Int32)) (n : Nat) (b : Bool) (d : Nat) (ml : List Value) (t : T) (Q : Option Value → T → Prop) (st : List Value) : vc xs zH_152 (n + 1) b d 152 103 ml st t Q = vga ml 0 (fun v => vc xs zH_152 n true d 152 104 ml (.ref v :: st) t Q) := by
  rw [vc_q (o := (2, 0, 0, 0, [])) (by decide +kernel)]; rfl
theorem v_152_104 (xs : Option (List Int32)) (n : Nat) (b : Bool) (d : Nat) (ml : List Value) (t : T) (Q : Option Value → T → Prop) (u : Nat) (r : List Value) : vc xs zH_152 (n + 1) b d 152 104 ml (.ref u :: r) t Q = (vtag u = 7 ∧ vc xs zH_152 n true d 152 107 ml (.ref (tref t u 0) :: r) t Q) := by
  rw [vc_q (o := (25, 0, 7, 0, [])) (by decide +kernel)]; rfl
theorem v_152_107 (xs : Option (List Int32)) (n : Nat) (b : Bool) (d : Nat) (ml : List Value) (t : T) (Q : Option Value → T → Prop) (st : List Value) : vc xs zH_152 (n + 1) b d 152 107 ml st t Q = vga ml 0 (fun v => vc xs zH_152 n true d 152 108 ml (.ref v :: st) t Q) := by
  rw [vc_q (o := (2, 0, 0, 0, [])) (by decide +kernel)]; rfl
theorem v_152_108 (xs : Option (List Int32)) (n : Nat) (b : Bool) (d : Nat) (ml : List Value) (t : T) (Q : Option Value → T → Prop) (u : Nat) (r : List Value) : vc xs zH_152 (n + 1) b d 152 108 ml (.ref u :: r) t Q = (vtag u = 7 ∧ vc xs zH_152 n true d 152 111 ml (.ref (tref t u 2) :: r) t Q) := by
  rw [vc_q (o := (25, 0, 7, 2, [])) (by decide +kernel)]; rfl
theorem v_152_111 (xs : Option (List Int32)) (n : Nat) (b : Bool) (d : Nat) (ml : List Value) (t : T) (Q : Option Value → T → Prop) (st : List Value) : vc xs zH_152 (n + 1) b d 152 111 ml st t Q = vga ml 1 (fun v => vc xs zH_152 n true d 152 112 ml (.ref v :: st) t Q) := by
  rw [vc_q (o := (2, 0, 1, 0, [])) (by decide +kernel)]; rfl
theorem v_152_112 (xs : Option (List Int32)) (n : Nat) (b : Bool) (d : Nat) (ml : List Value) (t : T) (Q : Option Value → T → Prop) (u : Nat) (r : List Value) : vc xs zH_152 (n + 1) b d 152 112 ml (.ref u :: r) t Q = (vtag u = 11 ∧ vc xs zH_152 n true d 152 115 ml (.ref (tref t u 8) :: r) t Q) := by
  rw [vc_q (o := (25, 0, 11, 8, [])) (by decide +kernel)]; rfl
theorem v_152_115 (xs : Option (List Int32)) (n : Nat) (b : Bool) (d : Nat) (ml : List Value) (t : T) (Q : Option Value → T → Prop) (st : List Value) : vc xs zH_152 (n + 1) b d 152 115 ml st t Q = vgi ml 3 (fun v => vc xs zH_152 n true d 152 116 ml (.int v :: st) t Q) := by
  rw [vc_q (o := (1, 0, 3, 0, [])) (by decide +kernel)]; rfl
theorem v_152_116 (xs : Option (List Int32)) (n : Nat) (b : Bool) (d : Nat) (ml : List Value) (t : T) (Q : Option Value → T → Prop) (v : Int32) (u : Nat) (r : List Value) : vc xs zH_152 (n + 1) b d 152 116 ml (.int v :: .ref u :: r) t Q = (vtag u = 100 ∧ vinb v (vlen u) ∧ vc xs zH_152 n true d 152 117 ml (.int (t.1 u v.toNatClampNeg) :: r) t Q) := by
  rw [vc_q (o := (29, 0, 0, 0, [])) (by decide +kernel)]; rfl
theorem v_152_117 (xs : Option (List Int32)) (n : Nat) (b : Bool) (d : Nat) (ml : List Value) (t : T) (Q : Option Value → T → Prop) (st : List Value) : vc xs zH_152 (n + 1) b d 152 117 ml st t Q = vgi ml 7 (fun v => vc xs zH_152 n true d 152 119 ml (.int v :: st) t Q) := by
  rw [vc_q (o := (1, 0, 7, 1, [])) (by decide +kernel)]; rfl
theorem v_152_119 (xs : Option (List Int32)) (n : Nat) (b : Bool) (d : Nat) (ml : List Value) (t : T) (Q : Option Value → T → Prop) (st : List Value) : vc xs zH_152 (n + 1) b d 152 119 ml st t Q = vgi ml 8 (fun v => vc xs zH_152 n true d 152 121 ml (.int v :: st) t Q) := by
  rw [vc_q (o := (1, 0, 8, 1, [])) (by decide +kernel)]; rfl
theorem v_152_121 (xs : Option (List Int32)) (n : Nat) (b : Bool) (d : Nat) (ml : List Value) (t : T) (Q : Option Value → T → Prop) (st : List Value) : vc xs zH_152 (n + 1) b d 152 121 ml st t Q = (st.all zc1 = true ∧ vtk 5 st [] (fun as rest => rest.length ≤ 8 ∧ vrc as 3 (twc d 122 as t (fun r t' => vc xs zH_152 n true d 152 124 ml (r.toList ++ rest) t' Q)))) := by
  rw [vc_q (o := (36, 0, 122, 4, [(0, 3)])) (by decide +kernel)]; rfl
theorem v_152_124 (xs : Option (List Int32)) (n : Nat) (b : Bool) (d : Nat) (ml : List Value) (t : T) (Q : Option Value → T → Prop) (st : List Value) : vc xs zH_152 (n + 1) b d 152 124 ml st t Q = (st.all zc1 = true ∧ vtk 5 st [] (fun as rest => rest.length ≤ 8 ∧ vrc as 4 (twc d 163 as t (fun r t' => vc xs zH_152 n true d 152 127 ml (r.toList ++ rest) t' Q)))) := by
  rw [vc_q (o := (36, 0, 163, 4, [(0, 4)])) (by decide +kernel)]; rfl
theorem v_152_127 (xs : Option (List Int32)) (n : Nat) (b : Bool) (d : Nat) (ml : List Value) (t : T) (Q : Option Value → T → Prop) (st : List Value) : vc xs zH_152 (n + 1) b d 152 127 ml st t Q = vgi ml 8 (fun v => vset ml 8 (.int (v + 1)) (fun l => vc xs zH_152 n true d 152 130 l st t Q)) := by
  rw [vc_q (o := (5, 1, 8, 0, [])) (by decide +kernel)]; rfl
theorem v_152_130 (xs : Option (List Int32)) (n : Nat) (b : Bool) (d : Nat) (ml : List Value) (t : T) (Q : Option Value → T → Prop) (st : List Value) : vc xs zH_152 (n + 1) b d 152 130 ml st t Q = vc xs zH_152 n true d 152 89 ml st t Q := by
  rw [vc_q (o := (22, 0, 89, 0, [])) (by decide +kernel)]; rfl
theorem v_152_133 (xs : Option (List Int32)) (n : Nat) (b : Bool) (d : Nat) (ml : List Value) (t : T) (Q : Option Value → T → Prop) (st : List Value) : vc xs zH_152 (n + 1) b d 152 133 ml st t Q = vgi ml 7 (fun v => vset ml 7 (.int (v + 1)) (fun l => vc xs zH_152 n true d 152 136 l st t Q)) := by
  rw [vc_q (o := (5, 1, 7, 0, [])) (by decide +kernel)]; rfl
theorem v_152_136 (xs : Option (List Int32)) (n : Nat) (b : Bool) (d : Nat) (ml : List Value) (t : T) (Q : Option Value → T → Prop) (st : List Value) : vc xs zH_152 (n + 1) b d 152 136 ml st t Q = vc xs zH_152 n true d 152 79 ml st t Q := by
  rw [vc_q (o := (22, 0, 79, 0, [])) (by decide +kernel)]; rfl
theorem v_152_139 (xs : Option (List Int32)) (n : Nat) (b : Bool) (d : Nat) (ml : List Value) (t : T) (Q : Option Value → T → Prop) (st : List Value) : vc xs zH_152 (n + 1) b d 152 139 ml st t Q = vgi ml 3 (fun v => vset ml 3 (.int (v + 1)) (fun l => vc xs zH_152 n true d 152 142 l st t Q)) := by
  rw [vc_q (o := (5, 1, 3, 0, [])) (by decide +kernel)]; rfl
theorem v_152_142 (xs : Option (List Int32)) (n : Nat) (b : Bool) (d : Nat) (ml : List Value) (t : T) (Q : Option Value → T → Prop) (st : List Value) : vc xs zH_152 (n + 1) b d 152 142 ml st t Q = vc xs zH_152 n true d 152 21 ml st t Q := by
  rw [vc_q (o := (22, 0, 21, 0, [])) (by decide +kernel)]; rfl
theorem v_152_145 (xs : Option (List Int32)) (n : Nat) (b : Bool) (d : Nat) (ml : List Value) (t : T) (Q : Option Value → T → Prop)  : vc xs zH_152 (n + 1) b d 152 145 ml [] t Q = Q none t := by
  rw [vc_q (o := (43, 0, 0, 0, [])) (by decide +kernel)]; rfl
def zH_155 : List Nat := []
theorem v_155_0 (xs : Option (List Int32)) (n : Nat) (b : Bool) (d : Nat) (ml : List Value) (t : T) (Q : Option Value → T → Prop) (st : List Value) : vc xs zH_155 (n + 1) b d 155 0 ml st t Q = vga ml 0 (fun v => vc xs zH_155 n true d 155 1 ml (.ref v :: st) t Q) := by
  rw [vc_q (o := (2, 0, 0, 0, [])) (by decide +kernel)]; rfl
theorem v_155_1 (xs : Option (List Int32)) (n : Nat) (b : Bool) (d : Nat) (ml : List Value) (t : T) (Q : Option Value → T → Prop) (u : Nat) (r : List Value) : vc xs zH_155 (n + 1) b d 155 1 ml (.ref u :: r) t Q = (vtag u = 5 ∧ vc xs zH_155 n true d 155 4 ml (.ref (tref t u 2) :: r) t Q) := by
  rw [vc_q (o := (25, 0, 5, 2, [])) (by decide +kernel)]; rfl
theorem v_155_4 (xs : Option (List Int32)) (n : Nat) (b : Bool) (d : Nat) (ml : List Value) (t : T) (Q : Option Value → T → Prop) (st : List Value) : vc xs zH_155 (n + 1) b d 155 4 ml st t Q = vga ml 0 (fun v => vc xs zH_155 n true d 155 5 ml (.ref v :: st) t Q) := by
  rw [vc_q (o := (2, 0, 0, 0, [])) (by decide +kernel)]; rfl
theorem v_155_5 (xs : Option (List Int32)) (n : Nat) (b : Bool) (d : Nat) (ml : List Value) (t : T) (Q : Option Value → T → Prop) (u : Nat) (r : List Value) : vc xs zH_155 (n + 1) b d 155 5 ml (.ref u :: r) t Q = (vtag u = 5 ∧ vc xs zH_155 n true d 155 8 ml (.int (t.1 u 3) :: r) t Q) := by
  rw [vc_q (o := (24, 0, 5, 3, [])) (by decide +kernel)]; rfl
theorem v_155_8 (xs : Option (List Int32)) (n : Nat) (b : Bool) (d : Nat) (ml : List Value) (t : T) (Q : Option Value → T → Prop) (v : Int32) (u : Nat) (r : List Value) : vc xs zH_155 (n + 1) b d 155 8 ml (.int v :: .ref u :: r) t Q = (103 ≤ vtag u ∧ vtag u < 108 ∧ vinb v (vlen u) ∧ vc xs zH_155 n true d 155 9 ml (.ref (tref t u v.toNatClampNeg) :: r) t Q) := by
  rw [vc_q (o := (31, 0, 0, 0, [])) (by decide +kernel)]; rfl
theorem v_155_9 (xs : Option (List Int32)) (n : Nat) (b : Bool) (d : Nat) (ml : List Value) (t : T) (Q : Option Value → T → Prop) (st : List Value) : vc xs zH_155 (n + 1) b d 155 9 ml st t Q = vgi ml 1 (fun v => vc xs zH_155 n true d 155 10 ml (.int v :: st) t Q) := by
  rw [vc_q (o := (1, 0, 1, 0, [])) (by decide +kernel)]; rfl
theorem v_155_10 (xs : Option (List Int32)) (n : Nat) (b : Bool) (d : Nat) (ml : List Value) (t : T) (Q : Option Value → T → Prop) (v : Int32) (u : Nat) (r : List Value) : vc xs zH_155 (n + 1) b d 155 10 ml (.int v :: .ref u :: r) t Q = (vtag u = 6 ∧ vc xs zH_155 n true d 155 13 ml r (tsi t u 0 v) Q) := by
  rw [vc_q (o := (26, 0, 6, 0, [])) (by decide +kernel)]; rfl
theorem v_155_13 (xs : Option (List Int32)) (n : Nat) (b : Bool) (d : Nat) (ml : List Value) (t : T) (Q : Option Value → T → Prop) (st : List Value) : vc xs zH_155 (n + 1) b d 155 13 ml st t Q = vga ml 0 (fun v => vc xs zH_155 n true d 155 14 ml (.ref v :: st) t Q) := by
  rw [vc_q (o := (2, 0, 0, 0, [])) (by decide +kernel)]; rfl
theorem v_155_14 (xs : Option (List Int32)) (n : Nat) (b : Bool) (d : Nat) (ml : List Value) (t : T) (Q : Option Value → T → Prop) (u : Nat) (r : List Value) : vc xs zH_155 (n + 1) b d 155 14 ml (.ref u :: r) t Q = (vtag u = 5 ∧ vc xs zH_155 n true d 155 17 ml (.ref (tref t u 2) :: r) t Q) := by
  rw [vc_q (o := (25, 0, 5, 2, [])) (by decide +kernel)]; rfl
theorem v_155_17 (xs : Option (List Int32)) (n : Nat) (b : Bool) (d : Nat) (ml : List Value) (t : T) (Q : Option Value → T → Prop) (st : List Value) : vc xs zH_155 (n + 1) b d 155 17 ml st t Q = vga ml 0 (fun v => vc xs zH_155 n true d 155 18 ml (.ref v :: st) t Q) := by
  rw [vc_q (o := (2, 0, 0, 0, [])) (by decide +kernel)]; rfl
theorem v_155_18 (xs : Option (List Int32)) (n : Nat) (b : Bool) (d : Nat) (ml : List Value) (t : T) (Q : Option Value → T → Prop) (u : Nat) (r : List Value) : vc xs zH_155 (n + 1) b d 155 18 ml (.ref u :: r) t Q = (vtag u = 5 ∧ vc xs zH_155 n true d 155 21 ml (.int (t.1 u 3) :: r) t Q) := by
  rw [vc_q (o := (24, 0, 5, 3, [])) (by decide +kernel)]; rfl
theorem v_155_21 (xs : Option (List Int32)) (n : Nat) (b : Bool) (d : Nat) (ml : List Value) (t : T) (Q : Option Value → T → Prop) (v : Int32) (u : Nat) (r : List Value) : vc xs zH_155 (n + 1) b d 155 21 ml (.int v :: .ref u :: r) t Q = (103 ≤ vtag u ∧ vtag u < 108 ∧ vinb v (vlen u) ∧ vc xs zH_155 n true d 155 22 ml (.ref (tref t u v.toNatClampNeg) :: r) t Q) := by
  rw [vc_q (o := (31, 0, 0, 0, [])) (by decide +kernel)]; rfl
theorem v_155_22 (xs : Option (List Int32)) (n : Nat) (b : Bool) (d : Nat) (ml : List Value) (t : T) (Q : Option Value → T → Prop) (st : List Value) : vc xs zH_155 (n + 1) b d 155 22 ml st t Q = vgi ml 2 (fun v => vc xs zH_155 n true d 155 23 ml (.int v :: st) t Q) := by
  rw [vc_q (o := (1, 0, 2, 0, [])) (by decide +kernel)]; rfl
theorem v_155_23 (xs : Option (List Int32)) (n : Nat) (b : Bool) (d : Nat) (ml : List Value) (t : T) (Q : Option Value → T → Prop) (v : Int32) (u : Nat) (r : List Value) : vc xs zH_155 (n + 1) b d 155 23 ml (.int v :: .ref u :: r) t Q = (vtag u = 6 ∧ vc xs zH_155 n true d 155 26 ml r (tsi t u 1 v) Q) := by
  rw [vc_q (o := (26, 0, 6, 1, [])) (by decide +kernel)]; rfl
theorem v_155_26 (xs : Option (List Int32)) (n : Nat) (b : Bool) (d : Nat) (ml : List Value) (t : T) (Q : Option Value → T → Prop) (st : List Value) : vc xs zH_155 (n + 1) b d 155 26 ml st t Q = vga ml 0 (fun v => vc xs zH_155 n true d 155 27 ml (.ref v :: st) t Q) := by
  rw [vc_q (o := (2, 0, 0, 0, [])) (by decide +kernel)]; rfl
theorem v_155_27 (xs : Option (List Int32)) (n : Nat) (b : Bool) (d : Nat) (ml : List Value) (t : T) (Q : Option Value → T → Prop) (u : Nat) (r : List Value) : vc xs zH_155 (n + 1) b d 155 27 ml (.ref u :: r) t Q = (vtag u = 5 ∧ vc xs zH_155 n true d 155 30 ml (.ref (tref t u 2) :: r) t Q) := by
  rw [vc_q (o := (25, 0, 5, 2, [])) (by decide +kernel)]; rfl
theorem v_155_30 (xs : Option (List Int32)) (n : Nat) (b : Bool) (d : Nat) (ml : List Value) (t : T) (Q : Option Value → T → Prop) (st : List Value) : vc xs zH_155 (n + 1) b d 155 30 ml st t Q = vga ml 0 (fun v => vc xs zH_155 n true d 155 31 ml (.ref v :: st) t Q) := by
  rw [vc_q (o := (2, 0, 0, 0, [])) (by decide +kernel)]; rfl
theorem v_155_31 (xs : Option (List Int32)) (n : Nat) (b : Bool) (d : Nat) (ml : List Value) (t : T) (Q : Option Value → T → Prop) (u : Nat) (r : List Value) : vc xs zH_155 (n + 1) b d 155 31 ml (.ref u :: r) t Q = (vtag u = 5 ∧ vc xs zH_155 n true d 155 34 ml (.int (t.1 u 3) :: r) t Q) := by
  rw [vc_q (o := (24, 0, 5, 3, [])) (by decide +kernel)]; rfl
theorem v_155_34 (xs : Option (List Int32)) (n : Nat) (b : Bool) (d : Nat) (ml : List Value) (t : T) (Q : Option Value → T → Prop) (v : Int32) (u : Nat) (r : List Value) : vc xs zH_155 (n + 1) b d 155 34 ml (.int v :: .ref u :: r) t Q = (103 ≤ vtag u ∧ vtag u < 108 ∧ vinb v (vlen u) ∧ vc xs zH_155 n true d 155 35 ml (.ref (tref t u v.toNatClampNeg) :: r) t Q) := by
  rw [vc_q (o := (31, 0, 0, 0, [])) (by decide +kernel)]; rfl
theorem v_155_35 (xs : Option (List Int32)) (n : Nat) (b : Bool) (d : Nat) (ml : List Value) (t : T) (Q : Option Value → T → Prop) (st : List Value) : vc xs zH_155 (n + 1) b d 155 35 ml st t Q = vgi ml 3 (fun v => vc xs zH_155 n true d 155 36 ml (.int v :: st) t Q) := by
  rw [vc_q (o := (1, 0, 3, 0, [])) (by decide +kernel)]; rfl
theorem v_155_36 (xs : Option (List Int32)) (n : Nat) (b : Bool) (d : Nat) (ml : List Value) (t : T) (Q : Option Value → T → Prop) (v : Int32) (u : Nat) (r : List Value) : vc xs zH_155 (n + 1) b d 155 36 ml (.int v :: .ref u :: r) t Q = (vtag u = 6 ∧ vc xs zH_155 n true d 155 39 ml r (tsi t u 2 v) Q) := by
  rw [vc_q (o := (26, 0, 6, 2, [])) (by decide +kernel)]; rfl
theorem v_155_39 (xs : Option (List Int32)) (n : Nat) (b : Bool) (d : Nat) (ml : List Value) (t : T) (Q : Option Value → T → Prop) (st : List Value) : vc xs zH_155 (n + 1) b d 155 39 ml st t Q = vga ml 0 (fun v => vc xs zH_155 n true d 155 40 ml (.ref v :: st) t Q) := by
  rw [vc_q (o := (2, 0, 0, 0, [])) (by decide +kernel)]; rfl
theorem v_155_40_int (xs : Option (List Int32)) (n : Nat) (b : Bool) (d : Nat) (ml : List Value) (t : T) (Q : Option Value → T → Prop) (v : Int32) (r : List Value) : vc xs zH_155 (n + 1) b d 155 40 ml (.int v :: r) t Q = vc xs zH_155 n true d 155 41 ml (.int v :: .int v :: r) t Q := by
  rw [vc_q (o := (17, 0, 0, 0, [])) (by decide +kernel)]; rfl
theorem v_155_40_ref (xs : Option (List Int32)) (n : Nat) (b : Bool) (d : Nat) (ml : List Value) (t : T) (Q : Option Value → T → Prop) (v : Nat) (r : List Value) : vc xs zH_155 (n + 1) b d 155 40 ml (.ref v :: r) t Q = vc xs zH_155 n true d 155 41 ml (.ref v :: .ref v :: r) t Q := by
  rw [vc_q (o := (17, 0, 0, 0, [])) (by decide +kernel)]; rfl
theorem v_155_41 (xs : Option (List Int32)) (n : Nat) (b : Bool) (d : Nat) (ml : List Value) (t : T) (Q : Option Value → T → Prop) (u : Nat) (r : List Value) : vc xs zH_155 (n + 1) b d 155 41 ml (.ref u :: r) t Q = (vtag u = 5 ∧ vc xs zH_155 n true d 155 44 ml (.int (t.1 u 3) :: r) t Q) := by
  rw [vc_q (o := (24, 0, 5, 3, [])) (by decide +kernel)]; rfl
theorem v_155_44 (xs : Option (List Int32)) (n : Nat) (b : Bool) (d : Nat) (ml : List Value) (t : T) (Q : Option Value → T → Prop) (st : List Value) : vc xs zH_155 (n + 1) b d 155 44 ml st t Q = vc xs zH_155 n true d 155 45 ml (.int 1 :: st) t Q := by
  rw [vc_q (o := (0, 1, 0, 0, [])) (by decide +kernel)]; rfl
theorem v_155_45 (xs : Option (List Int32)) (n : Nat) (b : Bool) (d : Nat) (ml : List Value) (t : T) (Q : Option Value → T → Prop) (u v : Int32) (r : List Value) : vc xs zH_155 (n + 1) b d 155 45 ml (.int v :: .int u :: r) t Q = vc xs zH_155 n true d 155 46 ml (.int (u + v) :: r) t Q := by
  rw [vc_q (o := (6, 0, 0, 0, [])) (by decide +kernel)]; rfl
theorem v_155_46 (xs : Option (List Int32)) (n : Nat) (b : Bool) (d : Nat) (ml : List Value) (t : T) (Q : Option Value → T → Prop) (v : Int32) (u : Nat) (r : List Value) : vc xs zH_155 (n + 1) b d 155 46 ml (.int v :: .ref u :: r) t Q = (vtag u = 5 ∧ vc xs zH_155 n true d 155 49 ml r (tsi t u 3 v) Q) := by
  rw [vc_q (o := (26, 0, 5, 3, [])) (by decide +kernel)]; rfl
theorem v_155_49 (xs : Option (List Int32)) (n : Nat) (b : Bool) (d : Nat) (ml : List Value) (t : T) (Q : Option Value → T → Prop) (st : List Value) : vc xs zH_155 (n + 1) b d 155 49 ml st t Q = vga ml 0 (fun v => vc xs zH_155 n true d 155 50 ml (.ref v :: st) t Q) := by
  rw [vc_q (o := (2, 0, 0, 0, [])) (by decide +kernel)]; rfl
theorem v_155_50 (xs : Option (List Int32)) (n : Nat) (b : Bool) (d : Nat) (ml : List Value) (t : T) (Q : Option Value → T → Prop) (u : Nat) (r : List Value) : vc xs zH_155 (n + 1) b d 155 50 ml (.ref u :: r) t Q = (vtag u = 5 ∧ vc xs zH_155 n true d 155 53 ml (.int (t.1 u 3) :: r) t Q) := by
  rw [vc_q (o := (24, 0, 5, 3, [])) (by decide +kernel)]; rfl
theorem v_155_53 (xs : Option (List Int32)) (n : Nat) (b : Bool) (d : Nat) (ml : List Value) (t : T) (Q : Option Value → T → Prop) (v : Int32) : vc xs zH_155 (n + 1) b d 155 53 ml [.int v] t Q = Q (some (.int v)) t := by
  rw [vc_q (o := (40, 0, 0, 0, [])) (by decide +kernel)]; rfl
def zH_156 : List Nat := [4, 19]
theorem v_156_0 (xs : Option (List Int32)) (n : Nat) (b : Bool) (d : Nat) (ml : List Value) (t : T) (Q : Option Value → T → Prop) (st : List Value) : vc xs zH_156 (n + 1) b d 156 0 ml st t Q = vc xs zH_156 n true d 156 1 ml (.int 1 :: st) t Q := by
  rw [vc_q (o := (0, 1, 0, 0, [])) (by decide +kernel)]; rfl
theorem v_156_1 (xs : Option (List Int32)) (n : Nat) (b : Bool) (d : Nat) (ml : List Value) (t : T) (Q : Option Value → T → Prop) (v : Int32) (r : List Value) : vc xs zH_156 (n + 1) b d 156 1 ml (.int v :: r) t Q = vset ml 2 (.int v) (fun l => vc xs zH_156 n true d 156 2 l r t Q) := by
  rw [vc_q (o := (3, 0, 2, 0, [])) (by decide +kernel)]; rfl
theorem v_156_2 (xs : Option (List Int32)) (n : Nat) (b : Bool) (d : Nat) (ml : List Value) (t : T) (Q : Option Value → T → Prop) (st : List Value) : vc xs zH_156 (n + 1) b d 156 2 ml st t Q = vc xs zH_156 n true d 156 3 ml (.int 0 :: st) t Q := by
  rw [vc_q (o := (0, 0, 0, 0, [])) (by decide +kernel)]; rfl
theorem v_156_3 (xs : Option (List Int32)) (n : Nat) (b : Bool) (d : Nat) (ml : List Value) (t : T) (Q : Option Value → T → Prop) (v : Int32) (r : List Value) : vc xs zH_156 (n + 1) b d 156 3 ml (.int v :: r) t Q = vset ml 3 (.int v) (fun l => vc xs zH_156 n true d 156 4 l r t Q) := by
  rw [vc_q (o := (3, 0, 3, 0, [])) (by decide +kernel)]; rfl
theorem v_156_4 (xs : Option (List Int32)) (n : Nat) (d : Nat) (ml : List Value) (t : T) (Q : Option Value → T → Prop) (st : List Value) : vc xs zH_156 (n + 1) false d 156 4 ml st t Q = vgi ml 3 (fun v => vc xs zH_156 n true d 156 5 ml (.int v :: st) t Q) := by
  rw [vc_q (o := (1, 0, 3, 0, [])) (by decide +kernel)]; rfl
theorem h_156_4 (xs : Option (List Int32)) (n d : Nat) (ml st : List Value) (t : T) (Q : Option Value → T → Prop) : vc xs zH_156 (n + 1) true d 156 4 ml st t Q = twp xs d 156 4 ml st t Q := id rfl
theorem v_156_5 (xs : Option (List Int32)) (n : Nat) (b : Bool) (d : Nat) (ml : List Value) (t : T) (Q : Option Value → T → Prop) (st : List Value) : vc xs zH_156 (n + 1) b d 156 5 ml st t Q = vc xs zH_156 n true d 156 7 ml (.int 105 :: st) t Q := by
  rw [vc_q (o := (0, 105, 1, 0, [])) (by decide +kernel)]; rfl
theorem v_156_7 (xs : Option (List Int32)) (n : Nat) (b : Bool) (d : Nat) (ml : List Value) (t : T) (Q : Option Value → T → Prop) (u v : Int32) (r : List Value) : vc xs zH_156 (n + 1) b d 156 7 ml (.int v :: .int u :: r) t Q = (if u < v then vc xs zH_156 n true d 156 10 ml r t Q else vc xs zH_156 n true d 156 78 ml r t Q) := by
  rw [vc_q (o := (20, 0, 78, 3, [])) (by decide +kernel)]; rfl
theorem v_156_10 (xs : Option (List Int32)) (n : Nat) (b : Bool) (d : Nat) (ml : List Value) (t : T) (Q : Option Value → T → Prop) (st : List Value) : vc xs zH_156 (n + 1) b d 156 10 ml st t Q = vgi ml 2 (fun v => vc xs zH_156 n true d 156 11 ml (.int v :: st) t Q) := by
  rw [vc_q (o := (1, 0, 2, 0, [])) (by decide +kernel)]; rfl
theorem v_156_11 (xs : Option (List Int32)) (n : Nat) (b : Bool) (d : Nat) (ml : List Value) (t : T) (Q : Option Value → T → Prop) (u : Int32) (r : List Value) : vc xs zH_156 (n + 1) b d 156 11 ml (.int u :: r) t Q = (if u = 0 then vc xs zH_156 n true d 156 78 ml r t Q else vc xs zH_156 n true d 156 14 ml r t Q) := by
  rw [vc_q (o := (21, 0, 78, 0, [])) (by decide +kernel)]; rfl
theorem v_156_14 (xs : Option (List Int32)) (n : Nat) (b : Bool) (d : Nat) (ml : List Value) (t : T) (Q : Option Value → T → Prop) (st : List Value) : vc xs zH_156 (n + 1) b d 156 14 ml st t Q = vc xs zH_156 n true d 156 15 ml (.int 0 :: st) t Q := by
  rw [vc_q (o := (0, 0, 0, 0, [])) (by decide +kernel)]; rfl
theorem v_156_15 (xs : Option (List Int32)) (n : Nat) (b : Bool) (d : Nat) (ml : List Value) (t : T) (Q : Option Value → T → Prop) (v : Int32) (r : List Value) : vc xs zH_156 (n + 1) b d 156 15 ml (.int v :: r) t Q = vset ml 2 (.int v) (fun l => vc xs zH_156 n true d 156 16 l r t Q) := by
  rw [vc_q (o := (3, 0, 2, 0, [])) (by decide +kernel)]; rfl
theorem v_156_16 (xs : Option (List Int32)) (n : Nat) (b : Bool) (d : Nat) (ml : List Value) (t : T) (Q : Option Value → T → Prop) (st : List Value) : vc xs zH_156 (n + 1) b d 156 16 ml st t Q = vc xs zH_156 n true d 156 17 ml (.int 0 :: st) t Q := by
  rw [vc_q (o := (0, 0, 0, 0, [])) (by decide +kernel)]; rfl
theorem v_156_17 (xs : Option (List Int32)) (n : Nat) (b : Bool) (d : Nat) (ml : List Value) (t : T) (Q : Option Value → T → Prop) (v : Int32) (r : List Value) : vc xs zH_156 (n + 1) b d 156 17 ml (.int v :: r) t Q = vset ml 4 (.int v) (fun l => vc xs zH_156 n true d 156 19 l r t Q) := by
  rw [vc_q (o := (3, 0, 4, 1, [])) (by decide +kernel)]; rfl
theorem v_156_19 (xs : Option (List Int32)) (n : Nat) (d : Nat) (ml : List Value) (t : T) (Q : Option Value → T → Prop) (st : List Value) : vc xs zH_156 (n + 1) false d 156 19 ml st t Q = vgi ml 4 (fun v => vc xs zH_156 n true d 156 21 ml (.int v :: st) t Q) := by
  rw [vc_q (o := (1, 0, 4, 1, [])) (by decide +kernel)]; rfl
theorem h_156_19 (xs : Option (List Int32)) (n d : Nat) (ml st : List Value) (t : T) (Q : Option Value → T → Prop) : vc xs zH_156 (n + 1) true d 156 19 ml st t Q = twp xs d 156 19 ml st t Q := id rfl
theorem v_156_21 (xs : Option (List Int32)) (n : Nat) (b : Bool) (d : Nat) (ml : List Value) (t : T) (Q : Option Value → T → Prop) (st : List Value) : vc xs zH_156 (n + 1) b d 156 21 ml st t Q = vga ml 0 (fun v => vc xs zH_156 n true d 156 22 ml (.ref v :: st) t Q) := by
  rw [vc_q (o := (2, 0, 0, 0, [])) (by decide +kernel)]; rfl
theorem v_156_22 (xs : Option (List Int32)) (n : Nat) (b : Bool) (d : Nat) (ml : List Value) (t : T) (Q : Option Value → T → Prop) (u : Nat) (r : List Value) : vc xs zH_156 (n + 1) b d 156 22 ml (.ref u :: r) t Q = (vtag u = 5 ∧ vc xs zH_156 n true d 156 25 ml (.int (t.1 u 3) :: r) t Q) := by
  rw [vc_q (o := (24, 0, 5, 3, [])) (by decide +kernel)]; rfl
theorem v_156_25 (xs : Option (List Int32)) (n : Nat) (b : Bool) (d : Nat) (ml : List Value) (t : T) (Q : Option Value → T → Prop) (u v : Int32) (r : List Value) : vc xs zH_156 (n + 1) b d 156 25 ml (.int v :: .int u :: r) t Q = (if u < v then vc xs zH_156 n true d 156 28 ml r t Q else vc xs zH_156 n true d 156 72 ml r t Q) := by
  rw [vc_q (o := (20, 0, 72, 3, [])) (by decide +kernel)]; rfl
theorem v_156_28 (xs : Option (List Int32)) (n : Nat) (b : Bool) (d : Nat) (ml : List Value) (t : T) (Q : Option Value → T → Prop) (st : List Value) : vc xs zH_156 (n + 1) b d 156 28 ml st t Q = vga ml 0 (fun v => vc xs zH_156 n true d 156 29 ml (.ref v :: st) t Q) := by
  rw [vc_q (o := (2, 0, 0, 0, [])) (by decide +kernel)]; rfl
theorem v_156_29 (xs : Option (List Int32)) (n : Nat) (b : Bool) (d : Nat) (ml : List Value) (t : T) (Q : Option Value → T → Prop) (st : List Value) : vc xs zH_156 (n + 1) b d 156 29 ml st t Q = vga ml 0 (fun v => vc xs zH_156 n true d 156 30 ml (.ref v :: st) t Q) := by
  rw [vc_q (o := (2, 0, 0, 0, [])) (by decide +kernel)]; rfl
theorem v_156_30 (xs : Option (List Int32)) (n : Nat) (b : Bool) (d : Nat) (ml : List Value) (t : T) (Q : Option Value → T → Prop) (u : Nat) (r : List Value) : vc xs zH_156 (n + 1) b d 156 30 ml (.ref u :: r) t Q = (vtag u = 5 ∧ vc xs zH_156 n true d 156 33 ml (.ref (tref t u 2) :: r) t Q) := by
  rw [vc_q (o := (25, 0, 5, 2, [])) (by decide +kernel)]; rfl
theorem v_156_33 (xs : Option (List Int32)) (n : Nat) (b : Bool) (d : Nat) (ml : List Value) (t : T) (Q : Option Value → T → Prop) (st : List Value) : vc xs zH_156 (n + 1) b d 156 33 ml st t Q = vgi ml 4 (fun v => vc xs zH_156 n true d 156 35 ml (.int v :: st) t Q) := by
  rw [vc_q (o := (1, 0, 4, 1, [])) (by decide +kernel)]; rfl
theorem v_156_35 (xs : Option (List Int32)) (n : Nat) (b : Bool) (d : Nat) (ml : List Value) (t : T) (Q : Option Value → T → Prop) (v : Int32) (u : Nat) (r : List Value) : vc xs zH_156 (n + 1) b d 156 35 ml (.int v :: .ref u :: r) t Q = (103 ≤ vtag u ∧ vtag u < 108 ∧ vinb v (vlen u) ∧ vc xs zH_156 n true d 156 36 ml (.ref (tref t u v.toNatClampNeg) :: r) t Q) := by
  rw [vc_q (o := (31, 0, 0, 0, [])) (by decide +kernel)]; rfl
theorem v_156_36 (xs : Option (List Int32)) (n : Nat) (b : Bool) (d : Nat) (ml : List Value) (t : T) (Q : Option Value → T → Prop) (st : List Value) : vc xs zH_156 (n + 1) b d 156 36 ml st t Q = vga ml 1 (fun v => vc xs zH_156 n true d 156 37 ml (.ref v :: st) t Q) := by
  rw [vc_q (o := (2, 0, 1, 0, [])) (by decide +kernel)]; rfl
theorem v_156_37 (xs : Option (List Int32)) (n : Nat) (b : Bool) (d : Nat) (ml : List Value) (t : T) (Q : Option Value → T → Prop) (st : List Value) : vc xs zH_156 (n + 1) b d 156 37 ml st t Q = (st.all zc1 = true ∧ vtk 3 st [] (fun as rest => rest.length ≤ 8 ∧ vrc as 5 (twc d 157 as t (fun r t' => vc xs zH_156 n true d 156 40 ml (r.toList ++ rest) t' Q)))) := by
  rw [vc_q (o := (36, 0, 157, 2, [(0, 5)])) (by decide +kernel)]; rfl
theorem v_156_40 (xs : Option (List Int32)) (n : Nat) (b : Bool) (d : Nat) (ml : List Value) (t : T) (Q : Option Value → T → Prop) (v : Int32) (r : List Value) : vc xs zH_156 (n + 1) b d 156 40 ml (.int v :: r) t Q = vset ml 5 (.int v) (fun l => vc xs zH_156 n true d 156 42 l r t Q) := by
  rw [vc_q (o := (3, 0, 5, 1, [])) (by decide +kernel)]; rfl
theorem v_156_42 (xs : Option (List Int32)) (n : Nat) (b : Bool) (d : Nat) (ml : List Value) (t : T) (Q : Option Value → T → Prop) (st : List Value) : vc xs zH_156 (n + 1) b d 156 42 ml st t Q = vgi ml 5 (fun v => vc xs zH_156 n true d 156 44 ml (.int v :: st) t Q) := by
  rw [vc_q (o := (1, 0, 5, 1, [])) (by decide +kernel)]; rfl
theorem v_156_44 (xs : Option (List Int32)) (n : Nat) (b : Bool) (d : Nat) (ml : List Value) (t : T) (Q : Option Value → T → Prop) (st : List Value) : vc xs zH_156 (n + 1) b d 156 44 ml st t Q = vc xs zH_156 n true d 156 45 ml (.int 2 :: st) t Q := by
  rw [vc_q (o := (0, 2, 0, 0, [])) (by decide +kernel)]; rfl
theorem v_156_45 (xs : Option (List Int32)) (n : Nat) (b : Bool) (d : Nat) (ml : List Value) (t : T) (Q : Option Value → T → Prop) (u v : Int32) (r : List Value) : vc xs zH_156 (n + 1) b d 156 45 ml (.int v :: .int u :: r) t Q = (if u = v then vc xs zH_156 n true d 156 48 ml r t Q else vc xs zH_156 n true d 156 50 ml r t Q) := by
  rw [vc_q (o := (20, 0, 50, 1, [])) (by decide +kernel)]; rfl
theorem v_156_48 (xs : Option (List Int32)) (n : Nat) (b : Bool) (d : Nat) (ml : List Value) (t : T) (Q : Option Value → T → Prop) (st : List Value) : vc xs zH_156 (n + 1) b d 156 48 ml st t Q = vc xs zH_156 n true d 156 49 ml (.int 0 :: st) t Q := by
  rw [vc_q (o := (0, 0, 0, 0, [])) (by decide +kernel)]; rfl
theorem v_156_49 (xs : Option (List Int32)) (n : Nat) (b : Bool) (d : Nat) (ml : List Value) (t : T) (Q : Option Value → T → Prop) (v : Int32) : vc xs zH_156 (n + 1) b d 156 49 ml [.int v] t Q = ((v = 0 ∨ v = 1) ∧ Q (some (.int v)) t) := by
  rw [vc_q (o := (41, 0, 0, 0, [])) (by decide +kernel)]; rfl
theorem v_156_50 (xs : Option (List Int32)) (n : Nat) (b : Bool) (d : Nat) (ml : List Value) (t : T) (Q : Option Value → T → Prop) (st : List Value) : vc xs zH_156 (n + 1) b d 156 50 ml st t Q = vgi ml 2 (fun v => vc xs zH_156 n true d 156 51 ml (.int v :: st) t Q) := by
  rw [vc_q (o := (1, 0, 2, 0, [])) (by decide +kernel)]; rfl
theorem v_156_51 (xs : Option (List Int32)) (n : Nat) (b : Bool) (d : Nat) (ml : List Value) (t : T) (Q : Option Value → T → Prop) (u : Int32) (r : List Value) : vc xs zH_156 (n + 1) b d 156 51 ml (.int u :: r) t Q = (if u = 0 then vc xs zH_156 n true d 156 54 ml r t Q else vc xs zH_156 n true d 156 60 ml r t Q) := by
  rw [vc_q (o := (21, 0, 60, 1, [])) (by decide +kernel)]; rfl
theorem v_156_54 (xs : Option (List Int32)) (n : Nat) (b : Bool) (d : Nat) (ml : List Value) (t : T) (Q : Option Value → T → Prop) (st : List Value) : vc xs zH_156 (n + 1) b d 156 54 ml st t Q = vgi ml 5 (fun v => vc xs zH_156 n true d 156 56 ml (.int v :: st) t Q) := by
  rw [vc_q (o := (1, 0, 5, 1, [])) (by decide +kernel)]; rfl
theorem v_156_56 (xs : Option (List Int32)) (n : Nat) (b : Bool) (d : Nat) (ml : List Value) (t : T) (Q : Option Value → T → Prop) (st : List Value) : vc xs zH_156 (n + 1) b d 156 56 ml st t Q = vc xs zH_156 n true d 156 57 ml (.int 1 :: st) t Q := by
  rw [vc_q (o := (0, 1, 0, 0, [])) (by decide +kernel)]; rfl
theorem v_156_57 (xs : Option (List Int32)) (n : Nat) (b : Bool) (d : Nat) (ml : List Value) (t : T) (Q : Option Value → T → Prop) (u v : Int32) (r : List Value) : vc xs zH_156 (n + 1) b d 156 57 ml (.int v :: .int u :: r) t Q = (if u = v then vc xs zH_156 n true d 156 60 ml r t Q else vc xs zH_156 n true d 156 64 ml r t Q) := by
  rw [vc_q (o := (20, 0, 64, 1, [])) (by decide +kernel)]; rfl
theorem v_156_60 (xs : Option (List Int32)) (n : Nat) (b : Bool) (d : Nat) (ml : List Value) (t : T) (Q : Option Value → T → Prop) (st : List Value) : vc xs zH_156 (n + 1) b d 156 60 ml st t Q = vc xs zH_156 n true d 156 61 ml (.int 1 :: st) t Q := by
  rw [vc_q (o := (0, 1, 0, 0, [])) (by decide +kernel)]; rfl
theorem v_156_61 (xs : Option (List Int32)) (n : Nat) (b : Bool) (d : Nat) (ml : List Value) (t : T) (Q : Option Value → T → Prop) (st : List Value) : vc xs zH_156 (n + 1) b d 156 61 ml st t Q = vc xs zH_156 n true d 156 65 ml st t Q := by
  rw [vc_q (o := (22, 0, 65, 0, [])) (by decide +kernel)]; rfl
theorem v_156_64 (xs : Option (List Int32)) (n : Nat) (b : Bool) (d : Nat) (ml : List Value) (t : T) (Q : Option Value → T → Prop) (st : List Value) : vc xs zH_156 (n + 1) b d 156 64 ml st t Q = vc xs zH_156 n true d 156 65 ml (.int 0 :: st) t Q := by
  rw [vc_q (o := (0, 0, 0, 0, [])) (by decide +kernel)]; rfl
theorem v_156_65 (xs : Option (List Int32)) (n : Nat) (b : Bool) (d : Nat) (ml : List Value) (t : T) (Q : Option Value → T → Prop) (v : Int32) (r : List Value) : vc xs zH_156 (n + 1) b d 156 65 ml (.int v :: r) t Q = vset ml 2 (.int v) (fun l => vc xs zH_156 n true d 156 66 l r t Q) := by
  rw [vc_q (o := (3, 0, 2, 0, [])) (by decide +kernel)]; rfl
theorem v_156_66 (xs : Option (List Int32)) (n : Nat) (b : Bool) (d : Nat) (ml : List Value) (t : T) (Q : Option Value → T → Prop) (st : List Value) : vc xs zH_156 (n + 1) b d 156 66 ml st t Q = vgi ml 4 (fun v => vset ml 4 (.int (v + 1)) (fun l => vc xs zH_156 n true d 156 69 l st t Q)) := by
  rw [vc_q (o := (5, 1, 4, 0, [])) (by decide +kernel)]; rfl
theorem v_156_69 (xs : Option (List Int32)) (n : Nat) (b : Bool) (d : Nat) (ml : List Value) (t : T) (Q : Option Value → T → Prop) (st : List Value) : vc xs zH_156 (n + 1) b d 156 69 ml st t Q = vc xs zH_156 n true d 156 19 ml st t Q := by
  rw [vc_q (o := (22, 0, 19, 0, [])) (by decide +kernel)]; rfl
theorem v_156_72 (xs : Option (List Int32)) (n : Nat) (b : Bool) (d : Nat) (ml : List Value) (t : T) (Q : Option Value → T → Prop) (st : List Value) : vc xs zH_156 (n + 1) b d 156 72 ml st t Q = vgi ml 3 (fun v => vset ml 3 (.int (v + 1)) (fun l => vc xs zH_156 n true d 156 75 l st t Q)) := by
  rw [vc_q (o := (5, 1, 3, 0, [])) (by decide +kernel)]; rfl
theorem v_156_75 (xs : Option (List Int32)) (n : Nat) (b : Bool) (d : Nat) (ml : List Value) (t : T) (Q : Option Value → T → Prop) (st : List Value) : vc xs zH_156 (n + 1) b d 156 75 ml st t Q = vc xs zH_156 n true d 156 4 ml st t Q := by
  rw [vc_q (o := (22, 0, 4, 0, [])) (by decide +kernel)]; rfl
theorem v_156_78 (xs : Option (List Int32)) (n : Nat) (b : Bool) (d : Nat) (ml : List Value) (t : T) (Q : Option Value → T → Prop) (st : List Value) : vc xs zH_156 (n + 1) b d 156 78 ml st t Q = vc xs zH_156 n true d 156 79 ml (.int 1 :: st) t Q := by
  rw [vc_q (o := (0, 1, 0, 0, [])) (by decide +kernel)]; rfl
theorem v_156_79 (xs : Option (List Int32)) (n : Nat) (b : Bool) (d : Nat) (ml : List Value) (t : T) (Q : Option Value → T → Prop) (v : Int32) : vc xs zH_156 (n + 1) b d 156 79 ml [.int v] t Q = ((v = 0 ∨ v = 1) ∧ Q (some (.int v)) t) := by
  rw [vc_q (o := (41, 0, 0, 0, [])) (by decide +kernel)]; rfl
def zH_157 : List Nat := [31, 40, 119, 139]
theorem v_157_0 (xs : Option (List Int32)) (n : Nat) (b : Bool) (d : Nat) (ml : List Value) (t : T) (Q : Option Value → T → Prop) (st : List Value) : vc xs zH_157 (n + 1) b d 157 0 ml st t Q = vga ml 2 (fun v => vc xs zH_157 n true d 157 1 ml (.ref v :: st) t Q) := by
  rw [vc_q (o := (2, 0, 2, 0, [])) (by decide +kernel)]; rfl
theorem v_157_1 (xs : Option (List Int32)) (n : Nat) (b : Bool) (d : Nat) (ml : List Value) (t : T) (Q : Option Value → T → Prop) (u : Nat) (r : List Value) : vc xs zH_157 (n + 1) b d 157 1 ml (.ref u :: r) t Q = (vtag u = 4 ∧ vc xs zH_157 n true d 157 4 ml (.int (t.1 u 0) :: r) t Q) := by
  rw [vc_q (o := (24, 0, 4, 0, [])) (by decide +kernel)]; rfl
theorem v_157_4 (xs : Option (List Int32)) (n : Nat) (b : Bool) (d : Nat) (ml : List Value) (t : T) (Q : Option Value → T → Prop) (v : Int32) (r : List Value) : vc xs zH_157 (n + 1) b d 157 4 ml (.int v :: r) t Q = vset ml 3 (.int v) (fun l => vc xs zH_157 n true d 157 5 l r t Q) := by
  rw [vc_q (o := (3, 0, 3, 0, [])) (by decide +kernel)]; rfl
theorem v_157_5 (xs : Option (List Int32)) (n : Nat) (b : Bool) (d : Nat) (ml : List Value) (t : T) (Q : Option Value → T → Prop) (st : List Value) : vc xs zH_157 (n + 1) b d 157 5 ml st t Q = vga ml 0 (fun v => vc xs zH_157 n true d 157 6 ml (.ref v :: st) t Q) := by
  rw [vc_q (o := (2, 0, 0, 0, [])) (by decide +kernel)]; rfl
theorem v_157_6 (xs : Option (List Int32)) (n : Nat) (b : Bool) (d : Nat) (ml : List Value) (t : T) (Q : Option Value → T → Prop) (u : Nat) (r : List Value) : vc xs zH_157 (n + 1) b d 157 6 ml (.ref u :: r) t Q = (vtag u = 5 ∧ vc xs zH_157 n true d 157 9 ml (.ref (tref t u 1) :: r) t Q) := by
  rw [vc_q (o := (25, 0, 5, 1, [])) (by decide +kernel)]; rfl
theorem v_157_9 (xs : Option (List Int32)) (n : Nat) (b : Bool) (d : Nat) (ml : List Value) (t : T) (Q : Option Value → T → Prop) (st : List Value) : vc xs zH_157 (n + 1) b d 157 9 ml st t Q = vga ml 1 (fun v => vc xs zH_157 n true d 157 10 ml (.ref v :: st) t Q) := by
  rw [vc_q (o := (2, 0, 1, 0, [])) (by decide +kernel)]; rfl
theorem v_157_10 (xs : Option (List Int32)) (n : Nat) (b : Bool) (d : Nat) (ml : List Value) (t : T) (Q : Option Value → T → Prop) (u : Nat) (r : List Value) : vc xs zH_157 (n + 1) b d 157 10 ml (.ref u :: r) t Q = (vtag u = 6 ∧ vc xs zH_157 n true d 157 13 ml (.int (t.1 u 0) :: r) t Q) := by
  rw [vc_q (o := (24, 0, 6, 0, [])) (by decide +kernel)]; rfl
theorem v_157_13 (xs : Option (List Int32)) (n : Nat) (b : Bool) (d : Nat) (ml : List Value) (t : T) (Q : Option Value → T → Prop) (v : Int32) (u : Nat) (r : List Value) : vc xs zH_157 (n + 1) b d 157 13 ml (.int v :: .ref u :: r) t Q = (103 ≤ vtag u ∧ vtag u < 108 ∧ vinb v (vlen u) ∧ vc xs zH_157 n true d 157 14 ml (.ref (tref t u v.toNatClampNeg) :: r) t Q) := by
  rw [vc_q (o := (31, 0, 0, 0, [])) (by decide +kernel)]; rfl
theorem v_157_14 (xs : Option (List Int32)) (n : Nat) (b : Bool) (d : Nat) (ml : List Value) (t : T) (Q : Option Value → T → Prop) (u : Nat) (r : List Value) : vc xs zH_157 (n + 1) b d 157 14 ml (.ref u :: r) t Q = (vtag u = 2 ∧ vc xs zH_157 n true d 157 17 ml (.int (t.1 u 6) :: r) t Q) := by
  rw [vc_q (o := (24, 0, 2, 6, [])) (by decide +kernel)]; rfl
theorem v_157_17 (xs : Option (List Int32)) (n : Nat) (b : Bool) (d : Nat) (ml : List Value) (t : T) (Q : Option Value → T → Prop) (v : Int32) (r : List Value) : vc xs zH_157 (n + 1) b d 157 17 ml (.int v :: r) t Q = vset ml 4 (.int v) (fun l => vc xs zH_157 n true d 157 19 l r t Q) := by
  rw [vc_q (o := (3, 0, 4, 1, [])) (by decide +kernel)]; rfl
theorem v_157_19 (xs : Option (List Int32)) (n : Nat) (b : Bool) (d : Nat) (ml : List Value) (t : T) (Q : Option Value → T → Prop) (st : List Value) : vc xs zH_157 (n + 1) b d 157 19 ml st t Q = vc xs zH_157 n true d 157 20 ml (.int 0 :: st) t Q := by
  rw [vc_q (o := (0, 0, 0, 0, [])) (by decide +kernel)]; rfl
theorem v_157_20 (xs : Option (List Int32)) (n : Nat) (b : Bool) (d : Nat) (ml : List Value) (t : T) (Q : Option Value → T → Prop) (v : Int32) (r : List Value) : vc xs zH_157 (n + 1) b d 157 20 ml (.int v :: r) t Q = vset ml 5 (.int v) (fun l => vc xs zH_157 n true d 157 22 l r t Q) := by
  rw [vc_q (o := (3, 0, 5, 1, [])) (by decide +kernel)]; rfl
theorem v_157_22 (xs : Option (List Int32)) (n : Nat) (b : Bool) (d : Nat) (ml : List Value) (t : T) (Q : Option Value → T → Prop) (st : List Value) : vc xs zH_157 (n + 1) b d 157 22 ml st t Q = vc xs zH_157 n true d 157 23 ml (.int 0 :: st) t Q := by
  rw [vc_q (o := (0, 0, 0, 0, [])) (by decide +kernel)]; rfl
theorem v_157_23 (xs : Option (List Int32)) (n : Nat) (b : Bool) (d : Nat) (ml : List Value) (t : T) (Q : Option Value → T → Prop) (v : Int32) (r : List Value) : vc xs zH_157 (n + 1) b d 157 23 ml (.int v :: r) t Q = vset ml 6 (.int v) (fun l => vc xs zH_157 n true d 157 25 l r t Q) := by
  rw [vc_q (o := (3, 0, 6, 1, [])) (by decide +kernel)]; rfl
theorem v_157_25 (xs : Option (List Int32)) (n : Nat) (b : Bool) (d : Nat) (ml : List Value) (t : T) (Q : Option Value → T → Prop) (st : List Value) : vc xs zH_157 (n + 1) b d 157 25 ml st t Q = vc xs zH_157 n true d 157 26 ml (.int (-1) :: st) t Q := by
  rw [vc_q (o := (0, (-1), 0, 0, [])) (by decide +kernel)]; rfl
theorem v_157_26 (xs : Option (List Int32)) (n : Nat) (b : Bool) (d : Nat) (ml : List Value) (t : T) (Q : Option Value → T → Prop) (v : Int32) (r : List Value) : vc xs zH_157 (n + 1) b d 157 26 ml (.int v :: r) t Q = vset ml 7 (.int v) (fun l => vc xs zH_157 n true d 157 28 l r t Q) := by
  rw [vc_q (o := (3, 0, 7, 1, [])) (by decide +kernel)]; rfl
theorem v_157_28 (xs : Option (List Int32)) (n : Nat) (b : Bool) (d : Nat) (ml : List Value) (t : T) (Q : Option Value → T → Prop) (st : List Value) : vc xs zH_157 (n + 1) b d 157 28 ml st t Q = vc xs zH_157 n true d 157 29 ml (.int 0 :: st) t Q := by
  rw [vc_q (o := (0, 0, 0, 0, [])) (by decide +kernel)]; rfl
theorem v_157_29 (xs : Option (List Int32)) (n : Nat) (b : Bool) (d : Nat) (ml : List Value) (t : T) (Q : Option Value → T → Prop) (v : Int32) (r : List Value) : vc xs zH_157 (n + 1) b d 157 29 ml (.int v :: r) t Q = vset ml 8 (.int v) (fun l => vc xs zH_157 n true d 157 31 l r t Q) := by
  rw [vc_q (o := (3, 0, 8, 1, [])) (by decide +kernel)]; rfl
theorem v_157_31 (xs : Option (List Int32)) (n : Nat) (d : Nat) (ml : List Value) (t : T) (Q : Option Value → T → Prop) (st : List Value) : vc xs zH_157 (n + 1) false d 157 31 ml st t Q = vgi ml 8 (fun v => vc xs zH_157 n true d 157 33 ml (.int v :: st) t Q) := by
  rw [vc_q (o := (1, 0, 8, 1, [])) (by decide +kernel)]; rfl
theorem h_157_31 (xs : Option (List Int32)) (n d : Nat) (ml st : List Value) (t : T) (Q : Option Value → T → Prop) : vc xs zH_157 (n + 1) true d 157 31 ml st t Q = twp xs d 157 31 ml st t Q := id rfl
theorem v_157_33 (xs : Option (List Int32)) (n : Nat) (b : Bool) (d : Nat) (ml : List Value) (t : T) (Q : Option Value → T → Prop) (st : List Value) : vc xs zH_157 (n + 1) b d 157 33 ml st t Q = vgi ml 3 (fun v => vc xs zH_157 n true d 157 34 ml (.int v :: st) t Q) := by
  rw [vc_q (o := (1, 0, 3, 0, [])) (by decide +kernel)]; rfl
theorem v_157_34 (xs : Option (List Int32)) (n : Nat) (b : Bool) (d : Nat) (ml : List Value) (t : T) (Q : Option Value → T → Prop) (u v : Int32) (r : List Value) : vc xs zH_157 (n + 1) b d 157 34 ml (.int v :: .int u :: r) t Q = (if u < v then vc xs zH_157 n true d 157 37 ml r t Q else vc xs zH_157 n true d 157 145 ml r t Q) := by
  rw [vc_q (o := (20, 0, 145, 3, [])) (by decide +kernel)]; rfl
theorem v_157_37 (xs : Option (List Int32)) (n : Nat) (b : Bool) (d : Nat) (ml : List Value) (t : T) (Q : Option Value → T → Prop) (st : List Value) : vc xs zH_157 (n + 1) b d 157 37 ml st t Q = vc xs zH_157 n true d 157 38 ml (.int 0 :: st) t Q := by
  rw [vc_q (o := (0, 0, 0, 0, [])) (by decide +kernel)]; rfl
theorem v_157_38 (xs : Option (List Int32)) (n : Nat) (b : Bool) (d : Nat) (ml : List Value) (t : T) (Q : Option Value → T → Prop) (v : Int32) (r : List Value) : vc xs zH_157 (n + 1) b d 157 38 ml (.int v :: r) t Q = vset ml 9 (.int v) (fun l => vc xs zH_157 n true d 157 40 l r t Q) := by
  rw [vc_q (o := (3, 0, 9, 1, [])) (by decide +kernel)]; rfl
theorem v_157_40 (xs : Option (List Int32)) (n : Nat) (d : Nat) (ml : List Value) (t : T) (Q : Option Value → T → Prop) (st : List Value) : vc xs zH_157 (n + 1) false d 157 40 ml st t Q = vgi ml 9 (fun v => vc xs zH_157 n true d 157 42 ml (.int v :: st) t Q) := by
  rw [vc_q (o := (1, 0, 9, 1, [])) (by decide +kernel)]; rfl
theorem h_157_40 (xs : Option (List Int32)) (n d : Nat) (ml st : List Value) (t : T) (Q : Option Value → T → Prop) : vc xs zH_157 (n + 1) true d 157 40 ml st t Q = twp xs d 157 40 ml st t Q := id rfl
theorem v_157_42 (xs : Option (List Int32)) (n : Nat) (b : Bool) (d : Nat) (ml : List Value) (t : T) (Q : Option Value → T → Prop) (st : List Value) : vc xs zH_157 (n + 1) b d 157 42 ml st t Q = vgi ml 3 (fun v => vc xs zH_157 n true d 157 43 ml (.int v :: st) t Q) := by
  rw [vc_q (o := (1, 0, 3, 0, [])) (by decide +kernel)]; rfl
theorem v_157_43 (xs : Option (List Int32)) (n : Nat) (b : Bool) (d : Nat) (ml : List Value) (t : T) (Q : Option Value → T → Prop) (u v : Int32) (r : List Value) : vc xs zH_157 (n + 1) b d 157 43 ml (.int v :: .int u :: r) t Q = (if u < v then vc xs zH_157 n true d 157 46 ml r t Q else vc xs zH_157 n true d 157 139 ml r t Q) := by
  rw [vc_q (o := (20, 0, 139, 3, [])) (by decide +kernel)]; rfl
theorem v_157_46 (xs : Option (List Int32)) (n : Nat) (b : Bool) (d : Nat) (ml : List Value) (t : T) (Q : Option Value → T → Prop) (st : List Value) : vc xs zH_157 (n + 1) b d 157 46 ml st t Q = vga ml 2 (fun v => vc xs zH_157 n true d 157 47 ml (.ref v :: st) t Q) := by
  rw [vc_q (o := (2, 0, 2, 0, [])) (by decide +kernel)]; rfl
theorem v_157_47 (xs : Option (List Int32)) (n : Nat) (b : Bool) (d : Nat) (ml : List Value) (t : T) (Q : Option Value → T → Prop) (st : List Value) : vc xs zH_157 (n + 1) b d 157 47 ml st t Q = vga ml 1 (fun v => vc xs zH_157 n true d 157 48 ml (.ref v :: st) t Q) := by
  rw [vc_q (o := (2, 0, 1, 0, [])) (by decide +kernel)]; rfl
theorem v_157_48 (xs : Option (List Int32)) (n : Nat) (b : Bool) (d : Nat) (ml : List Value) (t : T) (Q : Option Value → T → Prop) (u : Nat) (r : List Value) : vc xs zH_157 (n + 1) b d 157 48 ml (.ref u :: r) t Q = (vtag u = 6 ∧ vc xs zH_157 n true d 157 51 ml (.int (t.1 u 1) :: r) t Q) := by
  rw [vc_q (o := (24, 0, 6, 1, [])) (by decide +kernel)]; rfl
theorem v_157_51 (xs : Option (List Int32)) (n : Nat) (b : Bool) (d : Nat) (ml : List Value) (t : T) (Q : Option Value → T → Prop) (st : List Value) : vc xs zH_157 (n + 1) b d 157 51 ml st t Q = vgi ml 8 (fun v => vc xs zH_157 n true d 157 53 ml (.int v :: st) t Q) := by
  rw [vc_q (o := (1, 0, 8, 1, [])) (by decide +kernel)]; rfl
theorem v_157_53 (xs : Option (List Int32)) (n : Nat) (b : Bool) (d : Nat) (ml : List Value) (t : T) (Q : Option Value → T → Prop) (st : List Value) : vc xs zH_157 (n + 1) b d 157 53 ml st t Q = vgi ml 9 (fun v => vc xs zH_157 n true d 157 55 ml (.int v :: st) t Q) := by
  rw [vc_q (o := (1, 0, 9, 1, [])) (by decide +kernel)]; rfl
theorem v_157_55 (xs : Option (List Int32)) (n : Nat) (b : Bool) (d : Nat) (ml : List Value) (t : T) (Q : Option Value → T → Prop) (st : List Value) : vc xs zH_157 (n + 1) b d 157 55 ml st t Q = (st.all zc1 = true ∧ vtk 4 st [] (fun as rest => rest.length ≤ 8 ∧ vrc as 4 (twc d 162 as t (fun r t' => vc xs zH_157 n true d 157 58 ml (r.toList ++ rest) t' Q)))) := by
  rw [vc_q (o := (36, 0, 162, 3, [(0, 4)])) (by decide +kernel)]; rfl
theorem v_157_58 (xs : Option (List Int32)) (n : Nat) (b : Bool) (d : Nat) (ml : List Value) (t : T) (Q : Option Value → T → Prop) (st : List Value) : vc xs zH_157 (n + 1) b d 157 58 ml st t Q = vga ml 1 (fun v => vc xs zH_157 n true d 157 59 ml (.ref v :: st) t Q) := by
  rw [vc_q (o := (2, 0, 1, 0, [])) (by decide +kernel)]; rfl
theorem v_157_59 (xs : Option (List Int32)) (n : Nat) (b : Bool) (d : Nat) (ml : List Value) (t : T) (Q : Option Value → T → Prop) (u : Nat) (r : List Value) : vc xs zH_157 (n + 1) b d 157 59 ml (.ref u :: r) t Q = (vtag u = 6 ∧ vc xs zH_157 n true d 157 62 ml (.int (t.1 u 2) :: r) t Q) := by
  rw [vc_q (o := (24, 0, 6, 2, [])) (by decide +kernel)]; rfl
theorem v_157_62 (xs : Option (List Int32)) (n : Nat) (b : Bool) (d : Nat) (ml : List Value) (t : T) (Q : Option Value → T → Prop) (u v : Int32) (r : List Value) : vc xs zH_157 (n + 1) b d 157 62 ml (.int v :: .int u :: r) t Q = (if u = v then vc xs zH_157 n true d 157 133 ml r t Q else vc xs zH_157 n true d 157 65 ml r t Q) := by
  rw [vc_q (o := (20, 0, 133, 0, [])) (by decide +kernel)]; rfl
theorem v_157_65 (xs : Option (List Int32)) (n : Nat) (b : Bool) (d : Nat) (ml : List Value) (t : T) (Q : Option Value → T → Prop) (st : List Value) : vc xs zH_157 (n + 1) b d 157 65 ml st t Q = vgi ml 4 (fun v => vc xs zH_157 n true d 157 67 ml (.int v :: st) t Q) := by
  rw [vc_q (o := (1, 0, 4, 1, [])) (by decide +kernel)]; rfl
theorem v_157_67 (xs : Option (List Int32)) (n : Nat) (b : Bool) (d : Nat) (ml : List Value) (t : T) (Q : Option Value → T → Prop) (st : List Value) : vc xs zH_157 (n + 1) b d 157 67 ml st t Q = vgi ml 7 (fun v => vc xs zH_157 n true d 157 69 ml (.int v :: st) t Q) := by
  rw [vc_q (o := (1, 0, 7, 1, [])) (by decide +kernel)]; rfl
theorem v_157_69 (xs : Option (List Int32)) (n : Nat) (b : Bool) (d : Nat) (ml : List Value) (t : T) (Q : Option Value → T → Prop) (st : List Value) : vc xs zH_157 (n + 1) b d 157 69 ml st t Q = vgi ml 8 (fun v => vc xs zH_157 n true d 157 71 ml (.int v :: st) t Q) := by
  rw [vc_q (o := (1, 0, 8, 1, [])) (by decide +kernel)]; rfl
theorem v_157_71 (xs : Option (List Int32)) (n : Nat) (b : Bool) (d : Nat) (ml : List Value) (t : T) (Q : Option Value → T → Prop) (st : List Value) : vc xs zH_157 (n + 1) b d 157 71 ml st t Q = (st.all zc1 = true ∧ vtk 3 st [] (fun as rest => rest.length ≤ 8 ∧ twc d 158 as t (fun r t' => vc xs zH_157 n true d 157 74 ml (r.toList ++ rest) t' Q))) := by
  rw [vc_q (o := (37, 0, 158, 3, [])) (by decide +kernel)]; rfl
theorem v_157_74 (xs : Option (List Int32)) (n : Nat) (b : Bool) (d : Nat) (ml : List Value) (t : T) (Q : Option Value → T → Prop) (u : Int32) (r : List Value) : vc xs zH_157 (n + 1) b d 157 74 ml (.int u :: r) t Q = (if u = 0 then vc xs zH_157 n true d 157 99 ml r t Q else vc xs zH_157 n true d 157 77 ml r t Q) := by
  rw [vc_q (o := (21, 0, 99, 0, [])) (by decide +kernel)]; rfl
theorem v_157_77 (xs : Option (List Int32)) (n : Nat) (b : Bool) (d : Nat) (ml : List Value) (t : T) (Q : Option Value → T → Prop) (st : List Value) : vc xs zH_157 (n + 1) b d 157 77 ml st t Q = vga ml 0 (fun v => vc xs zH_157 n true d 157 78 ml (.ref v :: st) t Q) := by
  rw [vc_q (o := (2, 0, 0, 0, [])) (by decide +kernel)]; rfl
theorem v_157_78 (xs : Option (List Int32)) (n : Nat) (b : Bool) (d : Nat) (ml : List Value) (t : T) (Q : Option Value → T → Prop) (u : Nat) (r : List Value) : vc xs zH_157 (n + 1) b d 157 78 ml (.ref u :: r) t Q = (vtag u = 5 ∧ vc xs zH_157 n true d 157 81 ml (.ref (tref t u 0) :: r) t Q) := by
  rw [vc_q (o := (25, 0, 5, 0, [])) (by decide +kernel)]; rfl
theorem v_157_81 (xs : Option (List Int32)) (n : Nat) (b : Bool) (d : Nat) (ml : List Value) (t : T) (Q : Option Value → T → Prop) (st : List Value) : vc xs zH_157 (n + 1) b d 157 81 ml st t Q = vga ml 2 (fun v => vc xs zH_157 n true d 157 82 ml (.ref v :: st) t Q) := by
  rw [vc_q (o := (2, 0, 2, 0, [])) (by decide +kernel)]; rfl
theorem v_157_82 (xs : Option (List Int32)) (n : Nat) (b : Bool) (d : Nat) (ml : List Value) (t : T) (Q : Option Value → T → Prop) (st : List Value) : vc xs zH_157 (n + 1) b d 157 82 ml st t Q = vga ml 1 (fun v => vc xs zH_157 n true d 157 83 ml (.ref v :: st) t Q) := by
  rw [vc_q (o := (2, 0, 1, 0, [])) (by decide +kernel)]; rfl
theorem v_157_83 (xs : Option (List Int32)) (n : Nat) (b : Bool) (d : Nat) (ml : List Value) (t : T) (Q : Option Value → T → Prop) (u : Nat) (r : List Value) : vc xs zH_157 (n + 1) b d 157 83 ml (.ref u :: r) t Q = (vtag u = 6 ∧ vc xs zH_157 n true d 157 86 ml (.int (t.1 u 0) :: r) t Q) := by
  rw [vc_q (o := (24, 0, 6, 0, [])) (by decide +kernel)]; rfl
theorem v_157_86 (xs : Option (List Int32)) (n : Nat) (b : Bool) (d : Nat) (ml : List Value) (t : T) (Q : Option Value → T → Prop) (st : List Value) : vc xs zH_157 (n + 1) b d 157 86 ml st t Q = vgi ml 8 (fun v => vc xs zH_157 n true d 157 88 ml (.int v :: st) t Q) := by
  rw [vc_q (o := (1, 0, 8, 1, [])) (by decide +kernel)]; rfl
theorem v_157_88 (xs : Option (List Int32)) (n : Nat) (b : Bool) (d : Nat) (ml : List Value) (t : T) (Q : Option Value → T → Prop) (st : List Value) : vc xs zH_157 (n + 1) b d 157 88 ml st t Q = vgi ml 9 (fun v => vc xs zH_157 n true d 157 90 ml (.int v :: st) t Q) := by
  rw [vc_q (o := (1, 0, 9, 1, [])) (by decide +kernel)]; rfl
theorem v_157_90 (xs : Option (List Int32)) (n : Nat) (b : Bool) (d : Nat) (ml : List Value) (t : T) (Q : Option Value → T → Prop) (st : List Value) : vc xs zH_157 (n + 1) b d 157 90 ml st t Q = (st.all zc1 = true ∧ vtk 5 st [] (fun as rest => rest.length ≤ 8 ∧ vrc as 3 (twc d 122 as t (fun r t' => vc xs zH_157 n true d 157 93 ml (r.toList ++ rest) t' Q)))) := by
  rw [vc_q (o := (36, 0, 122, 4, [(0, 3)])) (by decide +kernel)]; rfl
theorem v_157_93 (xs : Option (List Int32)) (n : Nat) (b : Bool) (d : Nat) (ml : List Value) (t : T) (Q : Option Value → T → Prop) (v : Int32) (r : List Value) : vc xs zH_157 (n + 1) b d 157 93 ml (.int v :: r) t Q = vset ml 6 (.int v) (fun l => vc xs zH_157 n true d 157 95 l r t Q) := by
  rw [vc_q (o := (3, 0, 6, 1, [])) (by decide +kernel)]; rfl
theorem v_157_95 (xs : Option (List Int32)) (n : Nat) (b : Bool) (d : Nat) (ml : List Value) (t : T) (Q : Option Value → T → Prop) (st : List Value) : vc xs zH_157 (n + 1) b d 157 95 ml st t Q = vgi ml 8 (fun v => vc xs zH_157 n true d 157 97 ml (.int v :: st) t Q) := by
  rw [vc_q (o := (1, 0, 8, 1, [])) (by decide +kernel)]; rfl
theorem v_157_97 (xs : Option (List Int32)) (n : Nat) (b : Bool) (d : Nat) (ml : List Value) (t : T) (Q : Option Value → T → Prop) (v : Int32) (r : List Value) : vc xs zH_157 (n + 1) b d 157 97 ml (.int v :: r) t Q = vset ml 7 (.int v) (fun l => vc xs zH_157 n true d 157 99 l r t Q) := by
  rw [vc_q (o := (3, 0, 7, 1, [])) (by decide +kernel)]; rfl
theorem v_157_99 (xs : Option (List Int32)) (n : Nat) (b : Bool) (d : Nat) (ml : List Value) (t : T) (Q : Option Value → T → Prop) (st : List Value) : vc xs zH_157 (n + 1) b d 157 99 ml st t Q = vgi ml 6 (fun v => vc xs zH_157 n true d 157 101 ml (.int v :: st) t Q) := by
  rw [vc_q (o := (1, 0, 6, 1, [])) (by decide +kernel)]; rfl
theorem v_157_101 (xs : Option (List Int32)) (n : Nat) (b : Bool) (d : Nat) (ml : List Value) (t : T) (Q : Option Value → T → Prop) (st : List Value) : vc xs zH_157 (n + 1) b d 157 101 ml st t Q = vc xs zH_157 n true d 157 102 ml (.int 1 :: st) t Q := by
  rw [vc_q (o := (0, 1, 0, 0, [])) (by decide +kernel)]; rfl
theorem v_157_102 (xs : Option (List Int32)) (n : Nat) (b : Bool) (d : Nat) (ml : List Value) (t : T) (Q : Option Value → T → Prop) (u v : Int32) (r : List Value) : vc xs zH_157 (n + 1) b d 157 102 ml (.int v :: .int u :: r) t Q = (if u = v then vc xs zH_157 n true d 157 105 ml r t Q else vc xs zH_157 n true d 157 119 ml r t Q) := by
  rw [vc_q (o := (20, 0, 119, 1, [])) (by decide +kernel)]; rfl
theorem v_157_105 (xs : Option (List Int32)) (n : Nat) (b : Bool) (d : Nat) (ml : List Value) (t : T) (Q : Option Value → T → Prop) (st : List Value) : vc xs zH_157 (n + 1) b d 157 105 ml st t Q = vga ml 1 (fun v => vc xs zH_157 n true d 157 106 ml (.ref v :: st) t Q) := by
  rw [vc_q (o := (2, 0, 1, 0, [])) (by decide +kernel)]; rfl
theorem v_157_106 (xs : Option (List Int32)) (n : Nat) (b : Bool) (d : Nat) (ml : List Value) (t : T) (Q : Option Value → T → Prop) (st : List Value) : vc xs zH_157 (n + 1) b d 157 106 ml st t Q = vga ml 2 (fun v => vc xs zH_157 n true d 157 107 ml (.ref v :: st) t Q) := by
  rw [vc_q (o := (2, 0, 2, 0, [])) (by decide +kernel)]; rfl
theorem v_157_107 (xs : Option (List Int32)) (n : Nat) (b : Bool) (d : Nat) (ml : List Value) (t : T) (Q : Option Value → T → Prop) (st : List Value) : vc xs zH_157 (n + 1) b d 157 107 ml st t Q = vgi ml 8 (fun v => vc xs zH_157 n true d 157 109 ml (.int v :: st) t Q) := by
  rw [vc_q (o := (1, 0, 8, 1, [])) (by decide +kernel)]; rfl
theorem v_157_109 (xs : Option (List Int32)) (n : Nat) (b : Bool) (d : Nat) (ml : List Value) (t : T) (Q : Option Value → T → Prop) (st : List Value) : vc xs zH_157 (n + 1) b d 157 109 ml st t Q = vgi ml 9 (fun v => vc xs zH_157 n true d 157 111 ml (.int v :: st) t Q) := by
  rw [vc_q (o := (1, 0, 9, 1, [])) (by decide +kernel)]; rfl
theorem v_157_111 (xs : Option (List Int32)) (n : Nat) (b : Bool) (d : Nat) (ml : List Value) (t : T) (Q : Option Value → T → Prop) (st : List Value) : vc xs zH_157 (n + 1) b d 157 111 ml st t Q = (st.all zc1 = true ∧ vtk 4 st [] (fun as rest => rest.length ≤ 8 ∧ twc d 159 as t (fun r t' => vc xs zH_157 n true d 157 114 ml (r.toList ++ rest) t' Q))) := by
  rw [vc_q (o := (37, 0, 159, 4, [])) (by decide +kernel)]; rfl
theorem v_157_114 (xs : Option (List Int32)) (n : Nat) (b : Bool) (d : Nat) (ml : List Value) (t : T) (Q : Option Value → T → Prop) (u : Int32) (r : List Value) : vc xs zH_157 (n + 1) b d 157 114 ml (.int u :: r) t Q = (if u = 0 then vc xs zH_157 n true d 157 117 ml r t Q else vc xs zH_157 n true d 157 119 ml r t Q) := by
  rw [vc_q (o := (21, 0, 119, 1, [])) (by decide +kernel)]; rfl
theorem v_157_117 (xs : Option (List Int32)) (n : Nat) (b : Bool) (d : Nat) (ml : List Value) (t : T) (Q : Option Value → T → Prop) (st : List Value) : vc xs zH_157 (n + 1) b d 157 117 ml st t Q = vc xs zH_157 n true d 157 118 ml (.int 2 :: st) t Q := by
  rw [vc_q (o := (0, 2, 0, 0, [])) (by decide +kernel)]; rfl
theorem v_157_118 (xs : Option (List Int32)) (n : Nat) (b : Bool) (d : Nat) (ml : List Value) (t : T) (Q : Option Value → T → Prop) (v : Int32) : vc xs zH_157 (n + 1) b d 157 118 ml [.int v] t Q = Q (some (.int v)) t := by
  rw [vc_q (o := (40, 0, 0, 0, [])) (by decide +kernel)]; rfl
theorem v_157_119 (xs : Option (List Int32)) (n : Nat) (d : Nat) (ml : List Value) (t : T) (Q : Option Value → T → Prop) (st : List Value) : vc xs zH_157 (n + 1) false d 157 119 ml st t Q = vgi ml 6 (fun v => vc xs zH_157 n true d 157 121 ml (.int v :: st) t Q) := by
  rw [vc_q (o := (1, 0, 6, 1, [])) (by decide +kernel)]; rfl
theorem h_157_119 (xs : Option (List Int32)) (n d : Nat) (ml st : List Value) (t : T) (Q : Option Value → T → Prop) : vc xs zH_157 (n + 1) true d 157 119 ml st t Q = twp xs d 157 119 ml st t Q := id rfl
theorem v_157_121 (xs : Option (List Int32)) (n : Nat) (b : Bool) (d : Nat) (ml : List Value) (t : T) (Q : Option Value → T → Prop) (st : List Value) : vc xs zH_157 (n + 1) b d 157 121 ml st t Q = vc xs zH_157 n true d 157 122 ml (.int 1 :: st) t Q := by
  rw [vc_q (o := (0, 1, 0, 0, [])) (by decide +kernel)]; rfl
theorem v_157_122 (xs : Option (List Int32)) (n : Nat) (b : Bool) (d : Nat) (ml : List Value) (t : T) (Q : Option Value → T → Prop) (u v : Int32) (r : List Value) : vc xs zH_157 (n + 1) b d 157 122 ml (.int v :: .int u :: r) t Q = (if u = v then vc xs zH_157 n true d 157 125 ml r t Q else vc xs zH_157 n true d 157 129 ml r t Q) := by
  rw [vc_q (o := (20, 0, 129, 1, [])) (by decide +kernel)]; rfl
theorem v_157_125 (xs : Option (List Int32)) (n : Nat) (b : Bool) (d : Nat) (ml : List Value) (t : T) (Q : Option Value → T → Prop) (st : List Value) : vc xs zH_157 (n + 1) b d 157 125 ml st t Q = vc xs zH_157 n true d 157 126 ml (.int 1 :: st) t Q := by
  rw [vc_q (o := (0, 1, 0, 0, [])) (by decide +kernel)]; rfl
theorem v_157_126 (xs : Option (List Int32)) (n : Nat) (b : Bool) (d : Nat) (ml : List Value) (t : T) (Q : Option Value → T → Prop) (st : List Value) : vc xs zH_157 (n + 1) b d 157 126 ml st t Q = vc xs zH_157 n true d 157 131 ml st t Q := by
  rw [vc_q (o := (22, 0, 131, 0, [])) (by decide +kernel)]; rfl
theorem v_157_129 (xs : Option (List Int32)) (n : Nat) (b : Bool) (d : Nat) (ml : List Value) (t : T) (Q : Option Value → T → Prop) (st : List Value) : vc xs zH_157 (n + 1) b d 157 129 ml st t Q = vgi ml 5 (fun v => vc xs zH_157 n true d 157 131 ml (.int v :: st) t Q) := by
  rw [vc_q (o := (1, 0, 5, 1, [])) (by decide +kernel)]; rfl
theorem v_157_131 (xs : Option (List Int32)) (n : Nat) (b : Bool) (d : Nat) (ml : List Value) (t : T) (Q : Option Value → T → Prop) (v : Int32) (r : List Value) : vc xs zH_157 (n + 1) b d 157 131 ml (.int v :: r) t Q = vset ml 5 (.int v) (fun l => vc xs zH_157 n true d 157 133 l r t Q) := by
  rw [vc_q (o := (3, 0, 5, 1, [])) (by decide +kernel)]; rfl
theorem v_157_133 (xs : Option (List Int32)) (n : Nat) (b : Bool) (d : Nat) (ml : List Value) (t : T) (Q : Option Value → T → Prop) (st : List Value) : vc xs zH_157 (n + 1) b d 157 133 ml st t Q = vgi ml 9 (fun v => vset ml 9 (.int (v + 1)) (fun l => vc xs zH_157 n true d 157 136 l st t Q)) := by
  rw [vc_q (o := (5, 1, 9, 0, [])) (by decide +kernel)]; rfl
theorem v_157_136 (xs : Option (List Int32)) (n : Nat) (b : Bool) (d : Nat) (ml : List Value) (t : T) (Q : Option Value → T → Prop) (st : List Value) : vc xs zH_157 (n + 1) b d 157 136 ml st t Q = vc xs zH_157 n true d 157 40 ml st t Q := by
  rw [vc_q (o := (22, 0, 40, 0, [])) (by decide +kernel)]; rfl
theorem v_157_139 (xs : Option (List Int32)) (n : Nat) (d : Nat) (ml : List Value) (t : T) (Q : Option Value → T → Prop) (st : List Value) : vc xs zH_157 (n + 1) false d 157 139 ml st t Q = vgi ml 8 (fun v => vset ml 8 (.int (v + 1)) (fun l => vc xs zH_157 n true d 157 142 l st t Q)) := by
  rw [vc_q (o := (5, 1, 8, 0, [])) (by decide +kernel)]; rfl
theorem h_157_139 (xs : Option (List Int32)) (n d : Nat) (ml st : List Value) (t : T) (Q : Option Value → T → Prop) : vc xs zH_157 (n + 1) true d 157 139 ml st t Q = twp xs d 157 139 ml st t Q := id rfl
theorem v_157_142 (xs : Option (List Int32)) (n : Nat) (b : Bool) (d : Nat) (ml : List Value) (t : T) (Q : Option Value → T → Prop) (st : List Value) : vc xs zH_157 (n + 1) b d 157 142 ml st t Q = vc xs zH_157 n true d 157 31 ml st t Q := by
  rw [vc_q (o := (22, 0, 31, 0, [])) (by decide +kernel)]; rfl
theorem v_157_145 (xs : Option (List Int32)) (n : Nat) (b : Bool) (d : Nat) (ml : List Value) (t : T) (Q : Option Value → T → Prop) (st : List Value) : vc xs zH_157 (n + 1) b d 157 145 ml st t Q = vgi ml 5 (fun v => vc xs zH_157 n true d 157 147 ml (.int v :: st) t Q) := by
  rw [vc_q (o := (1, 0, 5, 1, [])) (by decide +kernel)]; rfl
theorem v_157_147 (xs : Option (List Int32)) (n : Nat) (b : Bool) (d : Nat) (ml : List Value) (t : T) (Q : Option Value → T → Prop) (v : Int32) : vc xs zH_157 (n + 1) b d 157 147 ml [.int v] t Q = Q (some (.int v)) t := by
  rw [vc_q (o := (40, 0, 0, 0, [])) (by decide +kernel)]; rfl
def zH_158 : List Nat := []
theorem v_158_0 (xs : Option (List Int32)) (n : Nat) (b : Bool) (d : Nat) (ml : List Value) (t : T) (Q : Option Value → T → Prop) (st : List Value) : vc xs zH_158 (n + 1) b d 158 0 ml st t Q = vgi ml 1 (fun v => vc xs zH_158 n true d 158 1 ml (.int v :: st) t Q) := by
  rw [vc_q (o := (1, 0, 1, 0, [])) (by decide +kernel)]; rfl
theorem v_158_1 (xs : Option (List Int32)) (n : Nat) (b : Bool) (d : Nat) (ml : List Value) (t : T) (Q : Option Value → T → Prop) (u : Int32) (r : List Value) : vc xs zH_158 (n + 1) b d 158 1 ml (.int u :: r) t Q = (if u < 0 then vc xs zH_158 n true d 158 21 ml r t Q else vc xs zH_158 n true d 158 4 ml r t Q) := by
  rw [vc_q (o := (21, 0, 21, 2, [])) (by decide +kernel)]; rfl
theorem v_158_4 (xs : Option (List Int32)) (n : Nat) (b : Bool) (d : Nat) (ml : List Value) (t : T) (Q : Option Value → T → Prop) (st : List Value) : vc xs zH_158 (n + 1) b d 158 4 ml st t Q = vgi ml 0 (fun v => vc xs zH_158 n true d 158 5 ml (.int v :: st) t Q) := by
  rw [vc_q (o := (1, 0, 0, 0, [])) (by decide +kernel)]; rfl
theorem v_158_5 (xs : Option (List Int32)) (n : Nat) (b : Bool) (d : Nat) (ml : List Value) (t : T) (Q : Option Value → T → Prop) (st : List Value) : vc xs zH_158 (n + 1) b d 158 5 ml st t Q = vc xs zH_158 n true d 158 6 ml (.int 2 :: st) t Q := by
  rw [vc_q (o := (0, 2, 0, 0, [])) (by decide +kernel)]; rfl
theorem v_158_6 (xs : Option (List Int32)) (n : Nat) (b : Bool) (d : Nat) (ml : List Value) (t : T) (Q : Option Value → T → Prop) (u v : Int32) (r : List Value) : vc xs zH_158 (n + 1) b d 158 6 ml (.int v :: .int u :: r) t Q = vc xs zH_158 n true d 158 7 ml (.int (u &&& v) :: r) t Q := by
  rw [vc_q (o := (9, 0, 0, 0, [])) (by decide +kernel)]; rfl
theorem v_158_7 (xs : Option (List Int32)) (n : Nat) (b : Bool) (d : Nat) (ml : List Value) (t : T) (Q : Option Value → T → Prop) (u : Int32) (r : List Value) : vc xs zH_158 (n + 1) b d 158 7 ml (.int u :: r) t Q = (if u = 0 then vc xs zH_158 n true d 158 10 ml r t Q else vc xs zH_158 n true d 158 21 ml r t Q) := by
  rw [vc_q (o := (21, 0, 21, 1, [])) (by decide +kernel)]; rfl
theorem v_158_10 (xs : Option (List Int32)) (n : Nat) (b : Bool) (d : Nat) (ml : List Value) (t : T) (Q : Option Value → T → Prop) (st : List Value) : vc xs zH_158 (n + 1) b d 158 10 ml st t Q = vgi ml 0 (fun v => vc xs zH_158 n true d 158 11 ml (.int v :: st) t Q) := by
  rw [vc_q (o := (1, 0, 0, 0, [])) (by decide +kernel)]; rfl
theorem v_158_11 (xs : Option (List Int32)) (n : Nat) (b : Bool) (d : Nat) (ml : List Value) (t : T) (Q : Option Value → T → Prop) (st : List Value) : vc xs zH_158 (n + 1) b d 158 11 ml st t Q = vc xs zH_158 n true d 158 12 ml (.int 1 :: st) t Q := by
  rw [vc_q (o := (0, 1, 0, 0, [])) (by decide +kernel)]; rfl
theorem v_158_12 (xs : Option (List Int32)) (n : Nat) (b : Bool) (d : Nat) (ml : List Value) (t : T) (Q : Option Value → T → Prop) (u v : Int32) (r : List Value) : vc xs zH_158 (n + 1) b d 158 12 ml (.int v :: .int u :: r) t Q = vc xs zH_158 n true d 158 13 ml (.int (u &&& v) :: r) t Q := by
  rw [vc_q (o := (9, 0, 0, 0, [])) (by decide +kernel)]; rfl
theorem v_158_13 (xs : Option (List Int32)) (n : Nat) (b : Bool) (d : Nat) (ml : List Value) (t : T) (Q : Option Value → T → Prop) (u : Int32) (r : List Value) : vc xs zH_158 (n + 1) b d 158 13 ml (.int u :: r) t Q = (if u = 0 then vc xs zH_158 n true d 158 25 ml r t Q else vc xs zH_158 n true d 158 16 ml r t Q) := by
  rw [vc_q (o := (21, 0, 25, 0, [])) (by decide +kernel)]; rfl
theorem v_158_16 (xs : Option (List Int32)) (n : Nat) (b : Bool) (d : Nat) (ml : List Value) (t : T) (Q : Option Value → T → Prop) (st : List Value) : vc xs zH_158 (n + 1) b d 158 16 ml st t Q = vgi ml 1 (fun v => vc xs zH_158 n true d 158 17 ml (.int v :: st) t Q) := by
  rw [vc_q (o := (1, 0, 1, 0, [])) (by decide +kernel)]; rfl
theorem v_158_17 (xs : Option (List Int32)) (n : Nat) (b : Bool) (d : Nat) (ml : List Value) (t : T) (Q : Option Value → T → Prop) (st : List Value) : vc xs zH_158 (n + 1) b d 158 17 ml st t Q = vgi ml 2 (fun v => vc xs zH_158 n true d 158 18 ml (.int v :: st) t Q) := by
  rw [vc_q (o := (1, 0, 2, 0, [])) (by decide +kernel)]; rfl
theorem v_158_18 (xs : Option (List Int32)) (n : Nat) (b : Bool) (d : Nat) (ml : List Value) (t : T) (Q : Option Value → T → Prop) (u v : Int32) (r : List Value) : vc xs zH_158 (n + 1) b d 158 18 ml (.int v :: .int u :: r) t Q = (if u = v then vc xs zH_158 n true d 158 25 ml r t Q else vc xs zH_158 n true d 158 21 ml r t Q) := by
  rw [vc_q (o := (20, 0, 25, 0, [])) (by decide +kernel)]; rfl
theorem v_158_21 (xs : Option (List Int32)) (n : Nat) (b : Bool) (d : Nat) (ml : List Value) (t : T) (Q : Option Value → T → Prop) (st : List Value) : vc xs zH_158 (n + 1) b d 158 21 ml st t Q = vc xs zH_158 n true d 158 22 ml (.int 1 :: st) t Q := by
  rw [vc_q (o := (0, 1, 0, 0, [])) (by decide +kernel)]; rfl
theorem v_158_22 (xs : Option (List Int32)) (n : Nat) (b : Bool) (d : Nat) (ml : List Value) (t : T) (Q : Option Value → T → Prop) (st : List Value) : vc xs zH_158 (n + 1) b d 158 22 ml st t Q = vc xs zH_158 n true d 158 26 ml st t Q := by
  rw [vc_q (o := (22, 0, 26, 0, [])) (by decide +kernel)]; rfl
theorem v_158_25 (xs : Option (List Int32)) (n : Nat) (b : Bool) (d : Nat) (ml : List Value) (t : T) (Q : Option Value → T → Prop) (st : List Value) : vc xs zH_158 (n + 1) b d 158 25 ml st t Q = vc xs zH_158 n true d 158 26 ml (.int 0 :: st) t Q := by
  rw [vc_q (o := (0, 0, 0, 0, [])) (by decide +kernel)]; rfl
theorem v_158_26 (xs : Option (List Int32)) (n : Nat) (b : Bool) (d : Nat) (ml : List Value) (t : T) (Q : Option Value → T → Prop) (v : Int32) : vc xs zH_158 (n + 1) b d 158 26 ml [.int v] t Q = ((v = 0 ∨ v = 1) ∧ Q (some (.int v)) t) := by
  rw [vc_q (o := (41, 0, 0, 0, [])) (by decide +kernel)]; rfl
def zH_159 : List Nat := []
theorem v_159_0 (xs : Option (List Int32)) (n : Nat) (b : Bool) (d : Nat) (ml : List Value) (t : T) (Q : Option Value → T → Prop) (st : List Value) : vc xs zH_159 (n + 1) b d 159 0 ml st t Q = vga ml 1 (fun v => vc xs zH_159 n true d 159 1 ml (.ref v :: st) t Q) := by
  rw [vc_q (o := (2, 0, 1, 0, [])) (by decide +kernel)]; rfl
theorem v_159_1 (xs : Option (List Int32)) (n : Nat) (b : Bool) (d : Nat) (ml : List Value) (t : T) (Q : Option Value → T → Prop) (st : List Value) : vc xs zH_159 (n + 1) b d 159 1 ml st t Q = vga ml 0 (fun v => vc xs zH_159 n true d 159 2 ml (.ref v :: st) t Q) := by
  rw [vc_q (o := (2, 0, 0, 0, [])) (by decide +kernel)]; rfl
theorem v_159_2 (xs : Option (List Int32)) (n : Nat) (b : Bool) (d : Nat) (ml : List Value) (t : T) (Q : Option Value → T → Prop) (u : Nat) (r : List Value) : vc xs zH_159 (n + 1) b d 159 2 ml (.ref u :: r) t Q = (vtag u = 6 ∧ vc xs zH_159 n true d 159 5 ml (.int (t.1 u 1) :: r) t Q) := by
  rw [vc_q (o := (24, 0, 6, 1, [])) (by decide +kernel)]; rfl
theorem v_159_5 (xs : Option (List Int32)) (n : Nat) (b : Bool) (d : Nat) (ml : List Value) (t : T) (Q : Option Value → T → Prop) (st : List Value) : vc xs zH_159 (n + 1) b d 159 5 ml st t Q = vgi ml 2 (fun v => vc xs zH_159 n true d 159 6 ml (.int v :: st) t Q) := by
  rw [vc_q (o := (1, 0, 2, 0, [])) (by decide +kernel)]; rfl
theorem v_159_6 (xs : Option (List Int32)) (n : Nat) (b : Bool) (d : Nat) (ml : List Value) (t : T) (Q : Option Value → T → Prop) (st : List Value) : vc xs zH_159 (n + 1) b d 159 6 ml st t Q = vgi ml 3 (fun v => vc xs zH_159 n true d 159 7 ml (.int v :: st) t Q) := by
  rw [vc_q (o := (1, 0, 3, 0, [])) (by decide +kernel)]; rfl
theorem v_159_7 (xs : Option (List Int32)) (n : Nat) (b : Bool) (d : Nat) (ml : List Value) (t : T) (Q : Option Value → T → Prop) (st : List Value) : vc xs zH_159 (n + 1) b d 159 7 ml st t Q = (st.all zc1 = true ∧ vtk 4 st [] (fun as rest => rest.length ≤ 8 ∧ vrc as 4 (twc d 162 as t (fun r t' => vc xs zH_159 n true d 159 10 ml (r.toList ++ rest) t' Q)))) := by
  rw [vc_q (o := (36, 0, 162, 3, [(0, 4)])) (by decide +kernel)]; rfl
theorem v_159_10 (xs : Option (List Int32)) (n : Nat) (b : Bool) (d : Nat) (ml : List Value) (t : T) (Q : Option Value → T → Prop) (st : List Value) : vc xs zH_159 (n + 1) b d 159 10 ml st t Q = vc xs zH_159 n true d 159 11 ml (.int 2 :: st) t Q := by
  rw [vc_q (o := (0, 2, 0, 0, [])) (by decide +kernel)]; rfl
theorem v_159_11 (xs : Option (List Int32)) (n : Nat) (b : Bool) (d : Nat) (ml : List Value) (t : T) (Q : Option Value → T → Prop) (u v : Int32) (r : List Value) : vc xs zH_159 (n + 1) b d 159 11 ml (.int v :: .int u :: r) t Q = (if u = v then vc xs zH_159 n true d 159 16 ml r t Q else vc xs zH_159 n true d 159 14 ml r t Q) := by
  rw [vc_q (o := (20, 0, 16, 0, [])) (by decide +kernel)]; rfl
theorem v_159_14 (xs : Option (List Int32)) (n : Nat) (b : Bool) (d : Nat) (ml : List Value) (t : T) (Q : Option Value → T → Prop) (st : List Value) : vc xs zH_159 (n + 1) b d 159 14 ml st t Q = vc xs zH_159 n true d 159 15 ml (.int 0 :: st) t Q := by
  rw [vc_q (o := (0, 0, 0, 0, [])) (by decide +kernel)]; rfl
theorem v_159_15 (xs : Option (List Int32)) (n : Nat) (b : Bool) (d : Nat) (ml : List Value) (t : T) (Q : Option Value → T → Prop) (v : Int32) : vc xs zH_159 (n + 1) b d 159 15 ml [.int v] t Q = ((v = 0 ∨ v = 1) ∧ Q (some (.int v)) t) := by
  rw [vc_q (o := (41, 0, 0, 0, [])) (by decide +kernel)]; rfl
theorem v_159_16 (xs : Option (List Int32)) (n : Nat) (b : Bool) (d : Nat) (ml : List Value) (t : T) (Q : Option Value → T → Prop) (st : List Value) : vc xs zH_159 (n + 1) b d 159 16 ml st t Q = vga ml 0 (fun v => vc xs zH_159 n true d 159 17 ml (.ref v :: st) t Q) := by
  rw [vc_q (o := (2, 0, 0, 0, [])) (by decide +kernel)]; rfl
theorem v_159_17 (xs : Option (List Int32)) (n : Nat) (b : Bool) (d : Nat) (ml : List Value) (t : T) (Q : Option Value → T → Prop) (u : Nat) (r : List Value) : vc xs zH_159 (n + 1) b d 159 17 ml (.ref u :: r) t Q = (vtag u = 6 ∧ vc xs zH_159 n true d 159 20 ml (.int (t.1 u 1) :: r) t Q) := by
  rw [vc_q (o := (24, 0, 6, 1, [])) (by decide +kernel)]; rfl
theorem v_159_20 (xs : Option (List Int32)) (n : Nat) (b : Bool) (d : Nat) (ml : List Value) (t : T) (Q : Option Value → T → Prop) (st : List Value) : vc xs zH_159 (n + 1) b d 159 20 ml st t Q = vc xs zH_159 n true d 159 22 ml (.int 8 :: st) t Q := by
  rw [vc_q (o := (0, 8, 1, 0, [])) (by decide +kernel)]; rfl
theorem v_159_22 (xs : Option (List Int32)) (n : Nat) (b : Bool) (d : Nat) (ml : List Value) (t : T) (Q : Option Value → T → Prop) (u v : Int32) (r : List Value) : vc xs zH_159 (n + 1) b d 159 22 ml (.int v :: .int u :: r) t Q = (if u = v then vc xs zH_159 n true d 159 41 ml r t Q else vc xs zH_159 n true d 159 25 ml r t Q) := by
  rw [vc_q (o := (20, 0, 41, 0, [])) (by decide +kernel)]; rfl
theorem v_159_25 (xs : Option (List Int32)) (n : Nat) (b : Bool) (d : Nat) (ml : List Value) (t : T) (Q : Option Value → T → Prop) (st : List Value) : vc xs zH_159 (n + 1) b d 159 25 ml st t Q = vga ml 1 (fun v => vc xs zH_159 n true d 159 26 ml (.ref v :: st) t Q) := by
  rw [vc_q (o := (2, 0, 1, 0, [])) (by decide +kernel)]; rfl
theorem v_159_26 (xs : Option (List Int32)) (n : Nat) (b : Bool) (d : Nat) (ml : List Value) (t : T) (Q : Option Value → T → Prop) (st : List Value) : vc xs zH_159 (n + 1) b d 159 26 ml st t Q = vga ml 0 (fun v => vc xs zH_159 n true d 159 27 ml (.ref v :: st) t Q) := by
  rw [vc_q (o := (2, 0, 0, 0, [])) (by decide +kernel)]; rfl
theorem v_159_27 (xs : Option (List Int32)) (n : Nat) (b : Bool) (d : Nat) (ml : List Value) (t : T) (Q : Option Value → T → Prop) (u : Nat) (r : List Value) : vc xs zH_159 (n + 1) b d 159 27 ml (.ref u :: r) t Q = (vtag u = 6 ∧ vc xs zH_159 n true d 159 30 ml (.int (t.1 u 1) :: r) t Q) := by
  rw [vc_q (o := (24, 0, 6, 1, [])) (by decide +kernel)]; rfl
theorem v_159_30 (xs : Option (List Int32)) (n : Nat) (b : Bool) (d : Nat) (ml : List Value) (t : T) (Q : Option Value → T → Prop) (st : List Value) : vc xs zH_159 (n + 1) b d 159 30 ml st t Q = vgi ml 2 (fun v => vc xs zH_159 n true d 159 31 ml (.int v :: st) t Q) := by
  rw [vc_q (o := (1, 0, 2, 0, [])) (by decide +kernel)]; rfl
theorem v_159_31 (xs : Option (List Int32)) (n : Nat) (b : Bool) (d : Nat) (ml : List Value) (t : T) (Q : Option Value → T → Prop) (st : List Value) : vc xs zH_159 (n + 1) b d 159 31 ml st t Q = vgi ml 3 (fun v => vc xs zH_159 n true d 159 32 ml (.int v :: st) t Q) := by
  rw [vc_q (o := (1, 0, 3, 0, [])) (by decide +kernel)]; rfl
theorem v_159_32 (xs : Option (List Int32)) (n : Nat) (b : Bool) (d : Nat) (ml : List Value) (t : T) (Q : Option Value → T → Prop) (st : List Value) : vc xs zH_159 (n + 1) b d 159 32 ml st t Q = vga ml 0 (fun v => vc xs zH_159 n true d 159 33 ml (.ref v :: st) t Q) := by
  rw [vc_q (o := (2, 0, 0, 0, [])) (by decide +kernel)]; rfl
theorem v_159_33 (xs : Option (List Int32)) (n : Nat) (b : Bool) (d : Nat) (ml : List Value) (t : T) (Q : Option Value → T → Prop) (u : Nat) (r : List Value) : vc xs zH_159 (n + 1) b d 159 33 ml (.ref u :: r) t Q = (vtag u = 6 ∧ vc xs zH_159 n true d 159 36 ml (.int (t.1 u 2) :: r) t Q) := by
  rw [vc_q (o := (24, 0, 6, 2, [])) (by decide +kernel)]; rfl
theorem v_159_36 (xs : Option (List Int32)) (n : Nat) (b : Bool) (d : Nat) (ml : List Value) (t : T) (Q : Option Value → T → Prop) (st : List Value) : vc xs zH_159 (n + 1) b d 159 36 ml st t Q = (st.all zc1 = true ∧ vtk 5 st [] (fun as rest => rest.length ≤ 8 ∧ vrc as 4 (twc d 163 as t (fun r t' => vc xs zH_159 n true d 159 39 ml (r.toList ++ rest) t' Q)))) := by
  rw [vc_q (o := (36, 0, 163, 4, [(0, 4)])) (by decide +kernel)]; rfl
theorem v_159_39 (xs : Option (List Int32)) (n : Nat) (b : Bool) (d : Nat) (ml : List Value) (t : T) (Q : Option Value → T → Prop) (st : List Value) : vc xs zH_159 (n + 1) b d 159 39 ml st t Q = vc xs zH_159 n true d 159 40 ml (.int 1 :: st) t Q := by
  rw [vc_q (o := (0, 1, 0, 0, [])) (by decide +kernel)]; rfl
theorem v_159_40 (xs : Option (List Int32)) (n : Nat) (b : Bool) (d : Nat) (ml : List Value) (t : T) (Q : Option Value → T → Prop) (v : Int32) : vc xs zH_159 (n + 1) b d 159 40 ml [.int v] t Q = ((v = 0 ∨ v = 1) ∧ Q (some (.int v)) t) := by
  rw [vc_q (o := (41, 0, 0, 0, [])) (by decide +kernel)]; rfl
theorem v_159_41 (xs : Option (List Int32)) (n : Nat) (b : Bool) (d : Nat) (ml : List Value) (t : T) (Q : Option Value → T → Prop) (st : List Value) : vc xs zH_159 (n + 1) b d 159 41 ml st t Q = vga ml 0 (fun v => vc xs zH_159 n true d 159 42 ml (.ref v :: st) t Q) := by
  rw [vc_q (o := (2, 0, 0, 0, [])) (by decide +kernel)]; rfl
theorem v_159_42 (xs : Option (List Int32)) (n : Nat) (b : Bool) (d : Nat) (ml : List Value) (t : T) (Q : Option Value → T → Prop) (u : Nat) (r : List Value) : vc xs zH_159 (n + 1) b d 159 42 ml (.ref u :: r) t Q = (vtag u = 6 ∧ vc xs zH_159 n true d 159 45 ml (.int (t.1 u 2) :: r) t Q) := by
  rw [vc_q (o := (24, 0, 6, 2, [])) (by decide +kernel)]; rfl
theorem v_159_45 (xs : Option (List Int32)) (n : Nat) (b : Bool) (d : Nat) (ml : List Value) (t : T) (Q : Option Value → T → Prop) (u : Int32) (r : List Value) : vc xs zH_159 (n + 1) b d 159 45 ml (.int u :: r) t Q = (if u = 0 then vc xs zH_159 n true d 159 48 ml r t Q else vc xs zH_159 n true d 159 50 ml r t Q) := by
  rw [vc_q (o := (21, 0, 50, 1, [])) (by decide +kernel)]; rfl
theorem v_159_48 (xs : Option (List Int32)) (n : Nat) (b : Bool) (d : Nat) (ml : List Value) (t : T) (Q : Option Value → T → Prop) (st : List Value) : vc xs zH_159 (n + 1) b d 159 48 ml st t Q = vc xs zH_159 n true d 159 49 ml (.int 0 :: st) t Q := by
  rw [vc_q (o := (0, 0, 0, 0, [])) (by decide +kernel)]; rfl
theorem v_159_49 (xs : Option (List Int32)) (n : Nat) (b : Bool) (d : Nat) (ml : List Value) (t : T) (Q : Option Value → T → Prop) (v : Int32) : vc xs zH_159 (n + 1) b d 159 49 ml [.int v] t Q = ((v = 0 ∨ v = 1) ∧ Q (some (.int v)) t) := by
  rw [vc_q (o := (41, 0, 0, 0, [])) (by decide +kernel)]; rfl
theorem v_159_50 (xs : Option (List Int32)) (n : Nat) (b : Bool) (d : Nat) (ml : List Value) (t : T) (Q : Option Value → T → Prop) (st : List Value) : vc xs zH_159 (n + 1) b d 159 50 ml st t Q = vga ml 1 (fun v => vc xs zH_159 n true d 159 51 ml (.ref v :: st) t Q) := by
  rw [vc_q (o := (2, 0, 1, 0, [])) (by decide +kernel)]; rfl
theorem v_159_51 (xs : Option (List Int32)) (n : Nat) (b : Bool) (d : Nat) (ml : List Value) (t : T) (Q : Option Value → T → Prop) (st : List Value) : vc xs zH_159 (n + 1) b d 159 51 ml st t Q = vgi ml 2 (fun v => vc xs zH_159 n true d 159 52 ml (.int v :: st) t Q) := by
  rw [vc_q (o := (1, 0, 2, 0, [])) (by decide +kernel)]; rfl
theorem v_159_52 (xs : Option (List Int32)) (n : Nat) (b : Bool) (d : Nat) (ml : List Value) (t : T) (Q : Option Value → T → Prop) (st : List Value) : vc xs zH_159 (n + 1) b d 159 52 ml st t Q = vc xs zH_159 n true d 159 53 ml (.int 0 :: st) t Q := by
  rw [vc_q (o := (0, 0, 0, 0, [])) (by decide +kernel)]; rfl
theorem v_159_53 (xs : Option (List Int32)) (n : Nat) (b : Bool) (d : Nat) (ml : List Value) (t : T) (Q : Option Value → T → Prop) (st : List Value) : vc xs zH_159 (n + 1) b d 159 53 ml st t Q = (st.all zc1 = true ∧ vtk 3 st [] (fun as rest => rest.length ≤ 8 ∧ vrc as 4 (twc d 166 as t (fun r t' => vc xs zH_159 n true d 159 56 ml (r.toList ++ rest) t' Q)))) := by
  rw [vc_q (o := (36, 0, 166, 2, [(0, 4)])) (by decide +kernel)]; rfl
theorem v_159_56 (xs : Option (List Int32)) (n : Nat) (b : Bool) (d : Nat) (ml : List Value) (t : T) (Q : Option Value → T → Prop) (st : List Value) : vc xs zH_159 (n + 1) b d 159 56 ml st t Q = vc xs zH_159 n true d 159 57 ml (.int 1 :: st) t Q := by
  rw [vc_q (o := (0, 1, 0, 0, [])) (by decide +kernel)]; rfl
theorem v_159_57 (xs : Option (List Int32)) (n : Nat) (b : Bool) (d : Nat) (ml : List Value) (t : T) (Q : Option Value → T → Prop) (v : Int32) : vc xs zH_159 (n + 1) b d 159 57 ml [.int v] t Q = ((v = 0 ∨ v = 1) ∧ Q (some (.int v)) t) := by
  rw [vc_q (o := (41, 0, 0, 0, [])) (by decide +kernel)]; rfl
def zH_161 : List Nat := []
theorem v_161_0 (xs : Option (List Int32)) (n : Nat) (b : Bool) (d : Nat) (ml : List Value) (t : T) (Q : Option Value → T → Prop) (st : List Value) : vc xs zH_161 (n + 1) b d 161 0 ml st t Q = vgi ml 0 (fun v => vc xs zH_161 n true d 161 1 ml (.int v :: st) t Q) := by
  rw [vc_q (o := (1, 0, 0, 0, [])) (by decide +kernel)]; rfl
theorem v_161_1 (xs : Option (List Int32)) (n : Nat) (b : Bool) (d : Nat) (ml : List Value) (t : T) (Q : Option Value → T → Prop) (st : List Value) : vc xs zH_161 (n + 1) b d 161 1 ml st t Q = vc xs zH_161 n true d 161 2 ml (.int 2 :: st) t Q := by
  rw [vc_q (o := (0, 2, 0, 0, [])) (by decide +kernel)]; rfl
theorem v_161_2 (xs : Option (List Int32)) (n : Nat) (b : Bool) (d : Nat) (ml : List Value) (t : T) (Q : Option Value → T → Prop) (u v : Int32) (r : List Value) : vc xs zH_161 (n + 1) b d 161 2 ml (.int v :: .int u :: r) t Q = (if u < v then vc xs zH_161 n true d 161 5 ml r t Q else vc xs zH_161 n true d 161 7 ml r t Q) := by
  rw [vc_q (o := (20, 0, 7, 3, [])) (by decide +kernel)]; rfl
theorem v_161_5 (xs : Option (List Int32)) (n : Nat) (b : Bool) (d : Nat) (ml : List Value) (t : T) (Q : Option Value → T → Prop) (st : List Value) : vc xs zH_161 (n + 1) b d 161 5 ml st t Q = vgi ml 0 (fun v => vc xs zH_161 n true d 161 6 ml (.int v :: st) t Q) := by
  rw [vc_q (o := (1, 0, 0, 0, [])) (by decide +kernel)]; rfl
theorem v_161_6 (xs : Option (List Int32)) (n : Nat) (b : Bool) (d : Nat) (ml : List Value) (t : T) (Q : Option Value → T → Prop) (v : Int32) : vc xs zH_161 (n + 1) b d 161 6 ml [.int v] t Q = Q (some (.int v)) t := by
  rw [vc_q (o := (40, 0, 0, 0, [])) (by decide +kernel)]; rfl
theorem v_161_7 (xs : Option (List Int32)) (n : Nat) (b : Bool) (d : Nat) (ml : List Value) (t : T) (Q : Option Value → T → Prop) (st : List Value) : vc xs zH_161 (n + 1) b d 161 7 ml st t Q = vgi ml 0 (fun v => vc xs zH_161 n true d 161 8 ml (.int v :: st) t Q) := by
  rw [vc_q (o := (1, 0, 0, 0, [])) (by decide +kernel)]; rfl
theorem v_161_8 (xs : Option (List Int32)) (n : Nat) (b : Bool) (d : Nat) (ml : List Value) (t : T) (Q : Option Value → T → Prop) (st : List Value) : vc xs zH_161 (n + 1) b d 161 8 ml st t Q = vc xs zH_161 n true d 161 10 ml (.int 6 :: st) t Q := by
  rw [vc_q (o := (0, 6, 1, 0, [])) (by decide +kernel)]; rfl
theorem v_161_10 (xs : Option (List Int32)) (n : Nat) (b : Bool) (d : Nat) (ml : List Value) (t : T) (Q : Option Value → T → Prop) (u v : Int32) (r : List Value) : vc xs zH_161 (n + 1) b d 161 10 ml (.int v :: .int u :: r) t Q = (if u < v then vc xs zH_161 n true d 161 13 ml r t Q else vc xs zH_161 n true d 161 23 ml r t Q) := by
  rw [vc_q (o := (20, 0, 23, 3, [])) (by decide +kernel)]; rfl
theorem v_161_13 (xs : Option (List Int32)) (n : Nat) (b : Bool) (d : Nat) (ml : List Value) (t : T) (Q : Option Value → T → Prop) (st : List Value) : vc xs zH_161 (n + 1) b d 161 13 ml st t Q = vc xs zH_161 n true d 161 14 ml (.int 2 :: st) t Q := by
  rw [vc_q (o := (0, 2, 0, 0, [])) (by decide +kernel)]; rfl
theorem v_161_14 (xs : Option (List Int32)) (n : Nat) (b : Bool) (d : Nat) (ml : List Value) (t : T) (Q : Option Value → T → Prop) (st : List Value) : vc xs zH_161 (n + 1) b d 161 14 ml st t Q = vc xs zH_161 n true d 161 15 ml (.int 5 :: st) t Q := by
  rw [vc_q (o := (0, 5, 0, 0, [])) (by decide +kernel)]; rfl
theorem v_161_15 (xs : Option (List Int32)) (n : Nat) (b : Bool) (d : Nat) (ml : List Value) (t : T) (Q : Option Value → T → Prop) (st : List Value) : vc xs zH_161 (n + 1) b d 161 15 ml st t Q = vgi ml 1 (fun v => vc xs zH_161 n true d 161 16 ml (.int v :: st) t Q) := by
  rw [vc_q (o := (1, 0, 1, 0, [])) (by decide +kernel)]; rfl
theorem v_161_16 (xs : Option (List Int32)) (n : Nat) (b : Bool) (d : Nat) (ml : List Value) (t : T) (Q : Option Value → T → Prop) (u v : Int32) (r : List Value) : vc xs zH_161 (n + 1) b d 161 16 ml (.int v :: .int u :: r) t Q = vc xs zH_161 n true d 161 17 ml (.int (u * v) :: r) t Q := by
  rw [vc_q (o := (8, 0, 0, 0, [])) (by decide +kernel)]; rfl
theorem v_161_17 (xs : Option (List Int32)) (n : Nat) (b : Bool) (d : Nat) (ml : List Value) (t : T) (Q : Option Value → T → Prop) (u v : Int32) (r : List Value) : vc xs zH_161 (n + 1) b d 161 17 ml (.int v :: .int u :: r) t Q = vc xs zH_161 n true d 161 18 ml (.int (u + v) :: r) t Q := by
  rw [vc_q (o := (6, 0, 0, 0, [])) (by decide +kernel)]; rfl
theorem v_161_18 (xs : Option (List Int32)) (n : Nat) (b : Bool) (d : Nat) (ml : List Value) (t : T) (Q : Option Value → T → Prop) (st : List Value) : vc xs zH_161 (n + 1) b d 161 18 ml st t Q = vgi ml 0 (fun v => vc xs zH_161 n true d 161 19 ml (.int v :: st) t Q) := by
  rw [vc_q (o := (1, 0, 0, 0, [])) (by decide +kernel)]; rfl
theorem v_161_19 (xs : Option (List Int32)) (n : Nat) (b : Bool) (d : Nat) (ml : List Value) (t : T) (Q : Option Value → T → Prop) (u v : Int32) (r : List Value) : vc xs zH_161 (n + 1) b d 161 19 ml (.int v :: .int u :: r) t Q = vc xs zH_161 n true d 161 20 ml (.int (u + v) :: r) t Q := by
  rw [vc_q (o := (6, 0, 0, 0, [])) (by decide +kernel)]; rfl
theorem v_161_20 (xs : Option (List Int32)) (n : Nat) (b : Bool) (d : Nat) (ml : List Value) (t : T) (Q : Option Value → T → Prop) (st : List Value) : vc xs zH_161 (n + 1) b d 161 20 ml st t Q = vc xs zH_161 n true d 161 21 ml (.int 1 :: st) t Q := by
  rw [vc_q (o := (0, 1, 0, 0, [])) (by decide +kernel)]; rfl
theorem v_161_21 (xs : Option (List Int32)) (n : Nat) (b : Bool) (d : Nat) (ml : List Value) (t : T) (Q : Option Value → T → Prop) (u v : Int32) (r : List Value) : vc xs zH_161 (n + 1) b d 161 21 ml (.int v :: .int u :: r) t Q = vc xs zH_161 n true d 161 22 ml (.int (u - v) :: r) t Q := by
  rw [vc_q (o := (7, 0, 0, 0, [])) (by decide +kernel)]; rfl
theorem v_161_22 (xs : Option (List Int32)) (n : Nat) (b : Bool) (d : Nat) (ml : List Value) (t : T) (Q : Option Value → T → Prop) (v : Int32) : vc xs zH_161 (n + 1) b d 161 22 ml [.int v] t Q = Q (some (.int v)) t := by
  rw [vc_q (o := (40, 0, 0, 0, [])) (by decide +kernel)]; rfl
theorem v_161_23 (xs : Option (List Int32)) (n : Nat) (b : Bool) (d : Nat) (ml : List Value) (t : T) (Q : Option Value → T → Prop) (st : List Value) : vc xs zH_161 (n + 1) b d 161 23 ml st t Q = vc xs zH_161 n true d 161 25 ml (.int 32 :: st) t Q := by
  rw [vc_q (o := (0, 32, 1, 0, [])) (by decide +kernel)]; rfl
theorem v_161_25 (xs : Option (List Int32)) (n : Nat) (b : Bool) (d : Nat) (ml : List Value) (t : T) (Q : Option Value → T → Prop) (st : List Value) : vc xs zH_161 (n + 1) b d 161 25 ml st t Q = vc xs zH_161 n true d 161 27 ml (.int 12 :: st) t Q := by
  rw [vc_q (o := (0, 12, 1, 0, [])) (by decide +kernel)]; rfl
theorem v_161_27 (xs : Option (List Int32)) (n : Nat) (b : Bool) (d : Nat) (ml : List Value) (t : T) (Q : Option Value → T → Prop) (st : List Value) : vc xs zH_161 (n + 1) b d 161 27 ml st t Q = vgi ml 1 (fun v => vc xs zH_161 n true d 161 28 ml (.int v :: st) t Q) := by
  rw [vc_q (o := (1, 0, 1, 0, [])) (by decide +kernel)]; rfl
theorem v_161_28 (xs : Option (List Int32)) (n : Nat) (b : Bool) (d : Nat) (ml : List Value) (t : T) (Q : Option Value → T → Prop) (u v : Int32) (r : List Value) : vc xs zH_161 (n + 1) b d 161 28 ml (.int v :: .int u :: r) t Q = vc xs zH_161 n true d 161 29 ml (.int (u * v) :: r) t Q := by
  rw [vc_q (o := (8, 0, 0, 0, [])) (by decide +kernel)]; rfl
theorem v_161_29 (xs : Option (List Int32)) (n : Nat) (b : Bool) (d : Nat) (ml : List Value) (t : T) (Q : Option Value → T → Prop) (u v : Int32) (r : List Value) : vc xs zH_161 (n + 1) b d 161 29 ml (.int v :: .int u :: r) t Q = vc xs zH_161 n true d 161 30 ml (.int (u + v) :: r) t Q := by
  rw [vc_q (o := (6, 0, 0, 0, [])) (by decide +kernel)]; rfl
theorem v_161_30 (xs : Option (List Int32)) (n : Nat) (b : Bool) (d : Nat) (ml : List Value) (t : T) (Q : Option Value → T → Prop) (st : List Value) : vc xs zH_161 (n + 1) b d 161 30 ml st t Q = vc xs zH_161 n true d 161 31 ml (.int 2 :: st) t Q := by
  rw [vc_q (o := (0, 2, 0, 0, [])) (by decide +kernel)]; rfl
theorem v_161_31 (xs : Option (List Int32)) (n : Nat) (b : Bool) (d : Nat) (ml : List Value) (t : T) (Q : Option Value → T → Prop) (st : List Value) : vc xs zH_161 (n + 1) b d 161 31 ml st t Q = vgi ml 2 (fun v => vc xs zH_161 n true d 161 32 ml (.int v :: st) t Q) := by
  rw [vc_q (o := (1, 0, 2, 0, [])) (by decide +kernel)]; rfl
theorem v_161_32 (xs : Option (List Int32)) (n : Nat) (b : Bool) (d : Nat) (ml : List Value) (t : T) (Q : Option Value → T → Prop) (u v : Int32) (r : List Value) : vc xs zH_161 (n + 1) b d 161 32 ml (.int v :: .int u :: r) t Q = vc xs zH_161 n true d 161 33 ml (.int (u * v) :: r) t Q := by
  rw [vc_q (o := (8, 0, 0, 0, [])) (by decide +kernel)]; rfl
theorem v_161_33 (xs : Option (List Int32)) (n : Nat) (b : Bool) (d : Nat) (ml : List Value) (t : T) (Q : Option Value → T → Prop) (u v : Int32) (r : List Value) : vc xs zH_161 (n + 1) b d 161 33 ml (.int v :: .int u :: r) t Q = vc xs zH_161 n true d 161 34 ml (.int (u + v) :: r) t Q := by
  rw [vc_q (o := (6, 0, 0, 0, [])) (by decide +kernel)]; rfl
theorem v_161_34 (xs : Option (List Int32)) (n : Nat) (b : Bool) (d : Nat) (ml : List Value) (t : T) (Q : Option Value → T → Prop) (st : List Value) : vc xs zH_161 (n + 1) b d 161 34 ml st t Q = vgi ml 0 (fun v => vc xs zH_161 n true d 161 35 ml (.int v :: st) t Q) := by
  rw [vc_q (o := (1, 0, 0, 0, [])) (by decide +kernel)]; rfl
theorem v_161_35 (xs : Option (List Int32)) (n : Nat) (b : Bool) (d : Nat) (ml : List Value) (t : T) (Q : Option Value → T → Prop) (u v : Int32) (r : List Value) : vc xs zH_161 (n + 1) b d 161 35 ml (.int v :: .int u :: r) t Q = vc xs zH_161 n true d 161 36 ml (.int (u + v) :: r) t Q := by
  rw [vc_q (o := (6, 0, 0, 0, [])) (by decide +kernel)]; rfl
theorem v_161_36 (xs : Option (List Int32)) (n : Nat) (b : Bool) (d : Nat) (ml : List Value) (t : T) (Q : Option Value → T → Prop) (st : List Value) : vc xs zH_161 (n + 1) b d 161 36 ml st t Q = vc xs zH_161 n true d 161 38 ml (.int 6 :: st) t Q := by
  rw [vc_q (o := (0, 6, 1, 0, [])) (by decide +kernel)]; rfl
theorem v_161_38 (xs : Option (List Int32)) (n : Nat) (b : Bool) (d : Nat) (ml : List Value) (t : T) (Q : Option Value → T → Prop) (u v : Int32) (r : List Value) : vc xs zH_161 (n + 1) b d 161 38 ml (.int v :: .int u :: r) t Q = vc xs zH_161 n true d 161 39 ml (.int (u - v) :: r) t Q := by
  rw [vc_q (o := (7, 0, 0, 0, [])) (by decide +kernel)]; rfl
theorem v_161_39 (xs : Option (List Int32)) (n : Nat) (b : Bool) (d : Nat) (ml : List Value) (t : T) (Q : Option Value → T → Prop) (v : Int32) : vc xs zH_161 (n + 1) b d 161 39 ml [.int v] t Q = Q (some (.int v)) t := by
  rw [vc_q (o := (40, 0, 0, 0, [])) (by decide +kernel)]; rfl
def zH_162 : List Nat := []
theorem v_162_0 (xs : Option (List Int32)) (n : Nat) (b : Bool) (d : Nat) (ml : List Value) (t : T) (Q : Option Value → T → Prop) (st : List Value) : vc xs zH_162 (n + 1) b d 162 0 ml st t Q = vgi ml 1 (fun v => vc xs zH_162 n true d 162 1 ml (.int v :: st) t Q) := by
  rw [vc_q (o := (1, 0, 1, 0, [])) (by decide +kernel)]; rfl
theorem v_162_1 (xs : Option (List Int32)) (n : Nat) (b : Bool) (d : Nat) (ml : List Value) (t : T) (Q : Option Value → T → Prop) (st : List Value) : vc xs zH_162 (n + 1) b d 162 1 ml st t Q = vc xs zH_162 n true d 162 3 ml (.int 8 :: st) t Q := by
  rw [vc_q (o := (0, 8, 1, 0, [])) (by decide +kernel)]; rfl
theorem v_162_3 (xs : Option (List Int32)) (n : Nat) (b : Bool) (d : Nat) (ml : List Value) (t : T) (Q : Option Value → T → Prop) (u v : Int32) (r : List Value) : vc xs zH_162 (n + 1) b d 162 3 ml (.int v :: .int u :: r) t Q = (if u = v then vc xs zH_162 n true d 162 6 ml r t Q else vc xs zH_162 n true d 162 15 ml r t Q) := by
  rw [vc_q (o := (20, 0, 15, 1, [])) (by decide +kernel)]; rfl
theorem v_162_6 (xs : Option (List Int32)) (n : Nat) (b : Bool) (d : Nat) (ml : List Value) (t : T) (Q : Option Value → T → Prop) (st : List Value) : vc xs zH_162 (n + 1) b d 162 6 ml st t Q = vga ml 0 (fun v => vc xs zH_162 n true d 162 7 ml (.ref v :: st) t Q) := by
  rw [vc_q (o := (2, 0, 0, 0, [])) (by decide +kernel)]; rfl
theorem v_162_7 (xs : Option (List Int32)) (n : Nat) (b : Bool) (d : Nat) (ml : List Value) (t : T) (Q : Option Value → T → Prop) (st : List Value) : vc xs zH_162 (n + 1) b d 162 7 ml st t Q = vgi ml 2 (fun v => vc xs zH_162 n true d 162 8 ml (.int v :: st) t Q) := by
  rw [vc_q (o := (1, 0, 2, 0, [])) (by decide +kernel)]; rfl
theorem v_162_8 (xs : Option (List Int32)) (n : Nat) (b : Bool) (d : Nat) (ml : List Value) (t : T) (Q : Option Value → T → Prop) (st : List Value) : vc xs zH_162 (n + 1) b d 162 8 ml st t Q = vgi ml 3 (fun v => vc xs zH_162 n true d 162 9 ml (.int v :: st) t Q) := by
  rw [vc_q (o := (1, 0, 3, 0, [])) (by decide +kernel)]; rfl
theorem v_162_9 (xs : Option (List Int32)) (n : Nat) (b : Bool) (d : Nat) (ml : List Value) (t : T) (Q : Option Value → T → Prop) (st : List Value) : vc xs zH_162 (n + 1) b d 162 9 ml st t Q = (st.all zc1 = true ∧ vtk 3 st [] (fun as rest => rest.length ≤ 8 ∧ vrc as 4 (twc d 164 as t (fun r t' => vc xs zH_162 n true d 162 12 ml (r.toList ++ rest) t' Q)))) := by
  rw [vc_q (o := (36, 0, 164, 2, [(0, 4)])) (by decide +kernel)]; rfl
theorem v_162_12 (xs : Option (List Int32)) (n : Nat) (b : Bool) (d : Nat) (ml : List Value) (t : T) (Q : Option Value → T → Prop) (st : List Value) : vc xs zH_162 (n + 1) b d 162 12 ml st t Q = vc xs zH_162 n true d 162 26 ml st t Q := by
  rw [vc_q (o := (22, 0, 26, 0, [])) (by decide +kernel)]; rfl
theorem v_162_15 (xs : Option (List Int32)) (n : Nat) (b : Bool) (d : Nat) (ml : List Value) (t : T) (Q : Option Value → T → Prop) (st : List Value) : vc xs zH_162 (n + 1) b d 162 15 ml st t Q = vga ml 0 (fun v => vc xs zH_162 n true d 162 16 ml (.ref v :: st) t Q) := by
  rw [vc_q (o := (2, 0, 0, 0, [])) (by decide +kernel)]; rfl
theorem v_162_16 (xs : Option (List Int32)) (n : Nat) (b : Bool) (d : Nat) (ml : List Value) (t : T) (Q : Option Value → T → Prop) (u : Nat) (r : List Value) : vc xs zH_162 (n + 1) b d 162 16 ml (.ref u :: r) t Q = (vtag u = 4 ∧ vc xs zH_162 n true d 162 19 ml (.ref (tref t u 1) :: r) t Q) := by
  rw [vc_q (o := (25, 0, 4, 1, [])) (by decide +kernel)]; rfl
theorem v_162_19 (xs : Option (List Int32)) (n : Nat) (b : Bool) (d : Nat) (ml : List Value) (t : T) (Q : Option Value → T → Prop) (st : List Value) : vc xs zH_162 (n + 1) b d 162 19 ml st t Q = vgi ml 1 (fun v => vc xs zH_162 n true d 162 20 ml (.int v :: st) t Q) := by
  rw [vc_q (o := (1, 0, 1, 0, [])) (by decide +kernel)]; rfl
theorem v_162_20 (xs : Option (List Int32)) (n : Nat) (b : Bool) (d : Nat) (ml : List Value) (t : T) (Q : Option Value → T → Prop) (st : List Value) : vc xs zH_162 (n + 1) b d 162 20 ml st t Q = vgi ml 2 (fun v => vc xs zH_162 n true d 162 21 ml (.int v :: st) t Q) := by
  rw [vc_q (o := (1, 0, 2, 0, [])) (by decide +kernel)]; rfl
theorem v_162_21 (xs : Option (List Int32)) (n : Nat) (b : Bool) (d : Nat) (ml : List Value) (t : T) (Q : Option Value → T → Prop) (st : List Value) : vc xs zH_162 (n + 1) b d 162 21 ml st t Q = vgi ml 3 (fun v => vc xs zH_162 n true d 162 22 ml (.int v :: st) t Q) := by
  rw [vc_q (o := (1, 0, 3, 0, [])) (by decide +kernel)]; rfl
theorem v_162_22 (xs : Option (List Int32)) (n : Nat) (b : Bool) (d : Nat) (ml : List Value) (t : T) (Q : Option Value → T → Prop) (st : List Value) : vc xs zH_162 (n + 1) b d 162 22 ml st t Q = (st.all zc1 = true ∧ vtk 3 st [] (fun as rest => rest.length ≤ 8 ∧ twc d 161 as t (fun r t' => vc xs zH_162 n true d 162 25 ml (r.toList ++ rest) t' Q))) := by
  rw [vc_q (o := (37, 0, 161, 3, [])) (by decide +kernel)]; rfl
theorem v_162_25 (xs : Option (List Int32)) (n : Nat) (b : Bool) (d : Nat) (ml : List Value) (t : T) (Q : Option Value → T → Prop) (v : Int32) (u : Nat) (r : List Value) : vc xs zH_162 (n + 1) b d 162 25 ml (.int v :: .ref u :: r) t Q = (vtag u = 100 ∧ vinb v (vlen u) ∧ vc xs zH_162 n true d 162 26 ml (.int (t.1 u v.toNatClampNeg) :: r) t Q) := by
  rw [vc_q (o := (29, 0, 0, 0, [])) (by decide +kernel)]; rfl
theorem v_162_26 (xs : Option (List Int32)) (n : Nat) (b : Bool) (d : Nat) (ml : List Value) (t : T) (Q : Option Value → T → Prop) (v : Int32) : vc xs zH_162 (n + 1) b d 162 26 ml [.int v] t Q = Q (some (.int v)) t := by
  rw [vc_q (o := (40, 0, 0, 0, [])) (by decide +kernel)]; rfl
def zH_163 : List Nat := []
theorem v_163_0 (xs : Option (List Int32)) (n : Nat) (b : Bool) (d : Nat) (ml : List Value) (t : T) (Q : Option Value → T → Prop) (st : List Value) : vc xs zH_163 (n + 1) b d 163 0 ml st t Q = vga ml 0 (fun v => vc xs zH_163 n true d 163 1 ml (.ref v :: st) t Q) := by
  rw [vc_q (o := (2, 0, 0, 0, [])) (by decide +kernel)]; rfl
theorem v_163_1 (xs : Option (List Int32)) (n : Nat) (b : Bool) (d : Nat) (ml : List Value) (t : T) (Q : Option Value → T → Prop) (u : Nat) (r : List Value) : vc xs zH_163 (n + 1) b d 163 1 ml (.ref u :: r) t Q = (vtag u = 4 ∧ vc xs zH_163 n true d 163 4 ml (.ref (tref t u 1) :: r) t Q) := by
  rw [vc_q (o := (25, 0, 4, 1, [])) (by decide +kernel)]; rfl
theorem v_163_4 (xs : Option (List Int32)) (n : Nat) (b : Bool) (d : Nat) (ml : List Value) (t : T) (Q : Option Value → T → Prop) (st : List Value) : vc xs zH_163 (n + 1) b d 163 4 ml st t Q = vgi ml 1 (fun v => vc xs zH_163 n true d 163 5 ml (.int v :: st) t Q) := by
  rw [vc_q (o := (1, 0, 1, 0, [])) (by decide +kernel)]; rfl
theorem v_163_5 (xs : Option (List Int32)) (n : Nat) (b : Bool) (d : Nat) (ml : List Value) (t : T) (Q : Option Value → T → Prop) (st : List Value) : vc xs zH_163 (n + 1) b d 163 5 ml st t Q = vgi ml 2 (fun v => vc xs zH_163 n true d 163 6 ml (.int v :: st) t Q) := by
  rw [vc_q (o := (1, 0, 2, 0, [])) (by decide +kernel)]; rfl
theorem v_163_6 (xs : Option (List Int32)) (n : Nat) (b : Bool) (d : Nat) (ml : List Value) (t : T) (Q : Option Value → T → Prop) (st : List Value) : vc xs zH_163 (n + 1) b d 163 6 ml st t Q = vgi ml 3 (fun v => vc xs zH_163 n true d 163 7 ml (.int v :: st) t Q) := by
  rw [vc_q (o := (1, 0, 3, 0, [])) (by decide +kernel)]; rfl
theorem v_163_7 (xs : Option (List Int32)) (n : Nat) (b : Bool) (d : Nat) (ml : List Value) (t : T) (Q : Option Value → T → Prop) (st : List Value) : vc xs zH_163 (n + 1) b d 163 7 ml st t Q = (st.all zc1 = true ∧ vtk 3 st [] (fun as rest => rest.length ≤ 8 ∧ twc d 161 as t (fun r t' => vc xs zH_163 n true d 163 10 ml (r.toList ++ rest) t' Q))) := by
  rw [vc_q (o := (37, 0, 161, 3, [])) (by decide +kernel)]; rfl
theorem v_163_10 (xs : Option (List Int32)) (n : Nat) (b : Bool) (d : Nat) (ml : List Value) (t : T) (Q : Option Value → T → Prop) (st : List Value) : vc xs zH_163 (n + 1) b d 163 10 ml st t Q = vgi ml 4 (fun v => vc xs zH_163 n true d 163 12 ml (.int v :: st) t Q) := by
  rw [vc_q (o := (1, 0, 4, 1, [])) (by decide +kernel)]; rfl
theorem v_163_12 (xs : Option (List Int32)) (n : Nat) (b : Bool) (d : Nat) (ml : List Value) (t : T) (Q : Option Value → T → Prop) (w v : Int32) (u : Nat) (r : List Value) : vc xs zH_163 (n + 1) b d 163 12 ml (.int w :: .int v :: .ref u :: r) t Q = (vtag u = 100 ∧ vinb v (vlen u) ∧ vc xs zH_163 n true d 163 13 ml r (tsi t u v.toNatClampNeg w) Q) := by
  rw [vc_q (o := (32, 0, 0, 0, [])) (by decide +kernel)]; rfl
theorem v_163_13 (xs : Option (List Int32)) (n : Nat) (b : Bool) (d : Nat) (ml : List Value) (t : T) (Q : Option Value → T → Prop)  : vc xs zH_163 (n + 1) b d 163 13 ml [] t Q = Q none t := by
  rw [vc_q (o := (43, 0, 0, 0, [])) (by decide +kernel)]; rfl
def zH_164 : List Nat := []
theorem v_164_0 (xs : Option (List Int32)) (n : Nat) (b : Bool) (d : Nat) (ml : List Value) (t : T) (Q : Option Value → T → Prop) (st : List Value) : vc xs zH_164 (n + 1) b d 164 0 ml st t Q = vgi ml 1 (fun v => vc xs zH_164 n true d 164 1 ml (.int v :: st) t Q) := by
  rw [vc_q (o := (1, 0, 1, 0, [])) (by decide +kernel)]; rfl
theorem v_164_1 (xs : Option (List Int32)) (n : Nat) (b : Bool) (d : Nat) (ml : List Value) (t : T) (Q : Option Value → T → Prop) (st : List Value) : vc xs zH_164 (n + 1) b d 164 1 ml st t Q = vgi ml 2 (fun v => vc xs zH_164 n true d 164 2 ml (.int v :: st) t Q) := by
  rw [vc_q (o := (1, 0, 2, 0, [])) (by decide +kernel)]; rfl
theorem v_164_2 (xs : Option (List Int32)) (n : Nat) (b : Bool) (d : Nat) (ml : List Value) (t : T) (Q : Option Value → T → Prop) (u v : Int32) (r : List Value) : vc xs zH_164 (n + 1) b d 164 2 ml (.int v :: .int u :: r) t Q = (if u = v then vc xs zH_164 n true d 164 7 ml r t Q else vc xs zH_164 n true d 164 5 ml r t Q) := by
  rw [vc_q (o := (20, 0, 7, 0, [])) (by decide +kernel)]; rfl
theorem v_164_5 (xs : Option (List Int32)) (n : Nat) (b : Bool) (d : Nat) (ml : List Value) (t : T) (Q : Option Value → T → Prop) (st : List Value) : vc xs zH_164 (n + 1) b d 164 5 ml st t Q = vc xs zH_164 n true d 164 6 ml (.int 0 :: st) t Q := by
  rw [vc_q (o := (0, 0, 0, 0, [])) (by decide +kernel)]; rfl
theorem v_164_6 (xs : Option (List Int32)) (n : Nat) (b : Bool) (d : Nat) (ml : List Value) (t : T) (Q : Option Value → T → Prop) (v : Int32) : vc xs zH_164 (n + 1) b d 164 6 ml [.int v] t Q = Q (some (.int v)) t := by
  rw [vc_q (o := (40, 0, 0, 0, [])) (by decide +kernel)]; rfl
theorem v_164_7 (xs : Option (List Int32)) (n : Nat) (b : Bool) (d : Nat) (ml : List Value) (t : T) (Q : Option Value → T → Prop) (st : List Value) : vc xs zH_164 (n + 1) b d 164 7 ml st t Q = vga ml 0 (fun v => vc xs zH_164 n true d 164 8 ml (.ref v :: st) t Q) := by
  rw [vc_q (o := (2, 0, 0, 0, [])) (by decide +kernel)]; rfl
theorem v_164_8 (xs : Option (List Int32)) (n : Nat) (b : Bool) (d : Nat) (ml : List Value) (t : T) (Q : Option Value → T → Prop) (u : Nat) (r : List Value) : vc xs zH_164 (n + 1) b d 164 8 ml (.ref u :: r) t Q = (vtag u = 4 ∧ vc xs zH_164 n true d 164 11 ml (.ref (tref t u 1) :: r) t Q) := by
  rw [vc_q (o := (25, 0, 4, 1, [])) (by decide +kernel)]; rfl
theorem v_164_11 (xs : Option (List Int32)) (n : Nat) (b : Bool) (d : Nat) (ml : List Value) (t : T) (Q : Option Value → T → Prop) (st : List Value) : vc xs zH_164 (n + 1) b d 164 11 ml st t Q = vc xs zH_164 n true d 164 12 ml (.int 2 :: st) t Q := by
  rw [vc_q (o := (0, 2, 0, 0, [])) (by decide +kernel)]; rfl
theorem v_164_12 (xs : Option (List Int32)) (n : Nat) (b : Bool) (d : Nat) (ml : List Value) (t : T) (Q : Option Value → T → Prop) (st : List Value) : vc xs zH_164 (n + 1) b d 164 12 ml st t Q = vc xs zH_164 n true d 164 13 ml (.int 5 :: st) t Q := by
  rw [vc_q (o := (0, 5, 0, 0, [])) (by decide +kernel)]; rfl
theorem v_164_13 (xs : Option (List Int32)) (n : Nat) (b : Bool) (d : Nat) (ml : List Value) (t : T) (Q : Option Value → T → Prop) (st : List Value) : vc xs zH_164 (n + 1) b d 164 13 ml st t Q = vgi ml 1 (fun v => vc xs zH_164 n true d 164 14 ml (.int v :: st) t Q) := by
  rw [vc_q (o := (1, 0, 1, 0, [])) (by decide +kernel)]; rfl
theorem v_164_14 (xs : Option (List Int32)) (n : Nat) (b : Bool) (d : Nat) (ml : List Value) (t : T) (Q : Option Value → T → Prop) (u v : Int32) (r : List Value) : vc xs zH_164 (n + 1) b d 164 14 ml (.int v :: .int u :: r) t Q = vc xs zH_164 n true d 164 15 ml (.int (u * v) :: r) t Q := by
  rw [vc_q (o := (8, 0, 0, 0, [])) (by decide +kernel)]; rfl
theorem v_164_15 (xs : Option (List Int32)) (n : Nat) (b : Bool) (d : Nat) (ml : List Value) (t : T) (Q : Option Value → T → Prop) (u v : Int32) (r : List Value) : vc xs zH_164 (n + 1) b d 164 15 ml (.int v :: .int u :: r) t Q = vc xs zH_164 n true d 164 16 ml (.int (u + v) :: r) t Q := by
  rw [vc_q (o := (6, 0, 0, 0, [])) (by decide +kernel)]; rfl
theorem v_164_16 (xs : Option (List Int32)) (n : Nat) (b : Bool) (d : Nat) (ml : List Value) (t : T) (Q : Option Value → T → Prop) (v : Int32) (u : Nat) (r : List Value) : vc xs zH_164 (n + 1) b d 164 16 ml (.int v :: .ref u :: r) t Q = (vtag u = 100 ∧ vinb v (vlen u) ∧ vc xs zH_164 n true d 164 17 ml (.int (t.1 u v.toNatClampNeg) :: r) t Q) := by
  rw [vc_q (o := (29, 0, 0, 0, [])) (by decide +kernel)]; rfl
theorem v_164_17 (xs : Option (List Int32)) (n : Nat) (b : Bool) (d : Nat) (ml : List Value) (t : T) (Q : Option Value → T → Prop) (st : List Value) : vc xs zH_164 (n + 1) b d 164 17 ml st t Q = vc xs zH_164 n true d 164 18 ml (.int 1 :: st) t Q := by
  rw [vc_q (o := (0, 1, 0, 0, [])) (by decide +kernel)]; rfl
theorem v_164_18 (xs : Option (List Int32)) (n : Nat) (b : Bool) (d : Nat) (ml : List Value) (t : T) (Q : Option Value → T → Prop) (u v : Int32) (r : List Value) : vc xs zH_164 (n + 1) b d 164 18 ml (.int v :: .int u :: r) t Q = (if u = v then vc xs zH_164 n true d 164 21 ml r t Q else vc xs zH_164 n true d 164 25 ml r t Q) := by
  rw [vc_q (o := (20, 0, 25, 1, [])) (by decide +kernel)]; rfl
theorem v_164_21 (xs : Option (List Int32)) (n : Nat) (b : Bool) (d : Nat) (ml : List Value) (t : T) (Q : Option Value → T → Prop) (st : List Value) : vc xs zH_164 (n + 1) b d 164 21 ml st t Q = vc xs zH_164 n true d 164 22 ml (.int 2 :: st) t Q := by
  rw [vc_q (o := (0, 2, 0, 0, [])) (by decide +kernel)]; rfl
theorem v_164_22 (xs : Option (List Int32)) (n : Nat) (b : Bool) (d : Nat) (ml : List Value) (t : T) (Q : Option Value → T → Prop) (st : List Value) : vc xs zH_164 (n + 1) b d 164 22 ml st t Q = vc xs zH_164 n true d 164 26 ml st t Q := by
  rw [vc_q (o := (22, 0, 26, 0, [])) (by decide +kernel)]; rfl
theorem v_164_25 (xs : Option (List Int32)) (n : Nat) (b : Bool) (d : Nat) (ml : List Value) (t : T) (Q : Option Value → T → Prop) (st : List Value) : vc xs zH_164 (n + 1) b d 164 25 ml st t Q = vc xs zH_164 n true d 164 26 ml (.int 1 :: st) t Q := by
  rw [vc_q (o := (0, 1, 0, 0, [])) (by decide +kernel)]; rfl
theorem v_164_26 (xs : Option (List Int32)) (n : Nat) (b : Bool) (d : Nat) (ml : List Value) (t : T) (Q : Option Value → T → Prop) (v : Int32) : vc xs zH_164 (n + 1) b d 164 26 ml [.int v] t Q = Q (some (.int v)) t := by
  rw [vc_q (o := (40, 0, 0, 0, [])) (by decide +kernel)]; rfl
def zH_165 : List Nat := []
theorem v_165_0 (xs : Option (List Int32)) (n : Nat) (b : Bool) (d : Nat) (ml : List Value) (t : T) (Q : Option Value → T → Prop) (st : List Value) : vc xs zH_165 (n + 1) b d 165 0 ml st t Q = vga ml 0 (fun v => vc xs zH_165 n true d 165 1 ml (.ref v :: st) t Q) := by
  rw [vc_q (o := (2, 0, 0, 0, [])) (by decide +kernel)]; rfl
theorem v_165_1 (xs : Option (List Int32)) (n : Nat) (b : Bool) (d : Nat) (ml : List Value) (t : T) (Q : Option Value → T → Prop) (u : Nat) (r : List Value) : vc xs zH_165 (n + 1) b d 165 1 ml (.ref u :: r) t Q = (vtag u = 4 ∧ vc xs zH_165 n true d 165 4 ml (.ref (tref t u 1) :: r) t Q) := by
  rw [vc_q (o := (25, 0, 4, 1, [])) (by decide +kernel)]; rfl
theorem v_165_4 (xs : Option (List Int32)) (n : Nat) (b : Bool) (d : Nat) (ml : List Value) (t : T) (Q : Option Value → T → Prop) (st : List Value) : vc xs zH_165 (n + 1) b d 165 4 ml st t Q = vc xs zH_165 n true d 165 5 ml (.int 2 :: st) t Q := by
  rw [vc_q (o := (0, 2, 0, 0, [])) (by decide +kernel)]; rfl
theorem v_165_5 (xs : Option (List Int32)) (n : Nat) (b : Bool) (d : Nat) (ml : List Value) (t : T) (Q : Option Value → T → Prop) (st : List Value) : vc xs zH_165 (n + 1) b d 165 5 ml st t Q = vc xs zH_165 n true d 165 6 ml (.int 5 :: st) t Q := by
  rw [vc_q (o := (0, 5, 0, 0, [])) (by decide +kernel)]; rfl
theorem v_165_6 (xs : Option (List Int32)) (n : Nat) (b : Bool) (d : Nat) (ml : List Value) (t : T) (Q : Option Value → T → Prop) (st : List Value) : vc xs zH_165 (n + 1) b d 165 6 ml st t Q = vgi ml 1 (fun v => vc xs zH_165 n true d 165 7 ml (.int v :: st) t Q) := by
  rw [vc_q (o := (1, 0, 1, 0, [])) (by decide +kernel)]; rfl
theorem v_165_7 (xs : Option (List Int32)) (n : Nat) (b : Bool) (d : Nat) (ml : List Value) (t : T) (Q : Option Value → T → Prop) (u v : Int32) (r : List Value) : vc xs zH_165 (n + 1) b d 165 7 ml (.int v :: .int u :: r) t Q = vc xs zH_165 n true d 165 8 ml (.int (u * v) :: r) t Q := by
  rw [vc_q (o := (8, 0, 0, 0, [])) (by decide +kernel)]; rfl
theorem v_165_8 (xs : Option (List Int32)) (n : Nat) (b : Bool) (d : Nat) (ml : List Value) (t : T) (Q : Option Value → T → Prop) (u v : Int32) (r : List Value) : vc xs zH_165 (n + 1) b d 165 8 ml (.int v :: .int u :: r) t Q = vc xs zH_165 n true d 165 9 ml (.int (u + v) :: r) t Q := by
  rw [vc_q (o := (6, 0, 0, 0, [])) (by decide +kernel)]; rfl
theorem v_165_9 (xs : Option (List Int32)) (n : Nat) (b : Bool) (d : Nat) (ml : List Value) (t : T) (Q : Option Value → T → Prop) (v : Int32) (u : Nat) (r : List Value) : vc xs zH_165 (n + 1) b d 165 9 ml (.int v :: .ref u :: r) t Q = (vtag u = 100 ∧ vinb v (vlen u) ∧ vc xs zH_165 n true d 165 10 ml (.int (t.1 u v.toNatClampNeg) :: r) t Q) := by
  rw [vc_q (o := (29, 0, 0, 0, [])) (by decide +kernel)]; rfl
theorem v_165_10 (xs : Option (List Int32)) (n : Nat) (b : Bool) (d : Nat) (ml : List Value) (t : T) (Q : Option Value → T → Prop) (st : List Value) : vc xs zH_165 (n + 1) b d 165 10 ml st t Q = vc xs zH_165 n true d 165 11 ml (.int 1 :: st) t Q := by
  rw [vc_q (o := (0, 1, 0, 0, [])) (by decide +kernel)]; rfl
theorem v_165_11 (xs : Option (List Int32)) (n : Nat) (b : Bool) (d : Nat) (ml : List Value) (t : T) (Q : Option Value → T → Prop) (u v : Int32) (r : List Value) : vc xs zH_165 (n + 1) b d 165 11 ml (.int v :: .int u :: r) t Q = (if u = v then vc xs zH_165 n true d 165 14 ml r t Q else vc xs zH_165 n true d 165 18 ml r t Q) := by
  rw [vc_q (o := (20, 0, 18, 1, [])) (by decide +kernel)]; rfl
theorem v_165_14 (xs : Option (List Int32)) (n : Nat) (b : Bool) (d : Nat) (ml : List Value) (t : T) (Q : Option Value → T → Prop) (st : List Value) : vc xs zH_165 (n + 1) b d 165 14 ml st t Q = vc xs zH_165 n true d 165 15 ml (.int 1 :: st) t Q := by
  rw [vc_q (o := (0, 1, 0, 0, [])) (by decide +kernel)]; rfl
theorem v_165_15 (xs : Option (List Int32)) (n : Nat) (b : Bool) (d : Nat) (ml : List Value) (t : T) (Q : Option Value → T → Prop) (st : List Value) : vc xs zH_165 (n + 1) b d 165 15 ml st t Q = vc xs zH_165 n true d 165 19 ml st t Q := by
  rw [vc_q (o := (22, 0, 19, 0, [])) (by decide +kernel)]; rfl
theorem v_165_18 (xs : Option (List Int32)) (n : Nat) (b : Bool) (d : Nat) (ml : List Value) (t : T) (Q : Option Value → T → Prop) (st : List Value) : vc xs zH_165 (n + 1) b d 165 18 ml st t Q = vc xs zH_165 n true d 165 19 ml (.int 0 :: st) t Q := by
  rw [vc_q (o := (0, 0, 0, 0, [])) (by decide +kernel)]; rfl
theorem v_165_19 (xs : Option (List Int32)) (n : Nat) (b : Bool) (d : Nat) (ml : List Value) (t : T) (Q : Option Value → T → Prop) (v : Int32) : vc xs zH_165 (n + 1) b d 165 19 ml [.int v] t Q = ((v = 0 ∨ v = 1) ∧ Q (some (.int v)) t) := by
  rw [vc_q (o := (41, 0, 0, 0, [])) (by decide +kernel)]; rfl
def zH_166 : List Nat := []
theorem v_166_0 (xs : Option (List Int32)) (n : Nat) (b : Bool) (d : Nat) (ml : List Value) (t : T) (Q : Option Value → T → Prop) (st : List Value) : vc xs zH_166 (n + 1) b d 166 0 ml st t Q = vga ml 0 (fun v => vc xs zH_166 n true d 166 1 ml (.ref v :: st) t Q) := by
  rw [vc_q (o := (2, 0, 0, 0, [])) (by decide +kernel)]; rfl
theorem v_166_1 (xs : Option (List Int32)) (n : Nat) (b : Bool) (d : Nat) (ml : List Value) (t : T) (Q : Option Value → T → Prop) (u : Nat) (r : List Value) : vc xs zH_166 (n + 1) b d 166 1 ml (.ref u :: r) t Q = (vtag u = 4 ∧ vc xs zH_166 n true d 166 4 ml (.ref (tref t u 1) :: r) t Q) := by
  rw [vc_q (o := (25, 0, 4, 1, [])) (by decide +kernel)]; rfl
theorem v_166_4 (xs : Option (List Int32)) (n : Nat) (b : Bool) (d : Nat) (ml : List Value) (t : T) (Q : Option Value → T → Prop) (st : List Value) : vc xs zH_166 (n + 1) b d 166 4 ml st t Q = vc xs zH_166 n true d 166 5 ml (.int 2 :: st) t Q := by
  rw [vc_q (o := (0, 2, 0, 0, [])) (by decide +kernel)]; rfl
theorem v_166_5 (xs : Option (List Int32)) (n : Nat) (b : Bool) (d : Nat) (ml : List Value) (t : T) (Q : Option Value → T → Prop) (st : List Value) : vc xs zH_166 (n + 1) b d 166 5 ml st t Q = vc xs zH_166 n true d 166 6 ml (.int 5 :: st) t Q := by
  rw [vc_q (o := (0, 5, 0, 0, [])) (by decide +kernel)]; rfl
theorem v_166_6 (xs : Option (List Int32)) (n : Nat) (b : Bool) (d : Nat) (ml : List Value) (t : T) (Q : Option Value → T → Prop) (st : List Value) : vc xs zH_166 (n + 1) b d 166 6 ml st t Q = vgi ml 1 (fun v => vc xs zH_166 n true d 166 7 ml (.int v :: st) t Q) := by
  rw [vc_q (o := (1, 0, 1, 0, [])) (by decide +kernel)]; rfl
theorem v_166_7 (xs : Option (List Int32)) (n : Nat) (b : Bool) (d : Nat) (ml : List Value) (t : T) (Q : Option Value → T → Prop) (u v : Int32) (r : List Value) : vc xs zH_166 (n + 1) b d 166 7 ml (.int v :: .int u :: r) t Q = vc xs zH_166 n true d 166 8 ml (.int (u * v) :: r) t Q := by
  rw [vc_q (o := (8, 0, 0, 0, [])) (by decide +kernel)]; rfl
theorem v_166_8 (xs : Option (List Int32)) (n : Nat) (b : Bool) (d : Nat) (ml : List Value) (t : T) (Q : Option Value → T → Prop) (u v : Int32) (r : List Value) : vc xs zH_166 (n + 1) b d 166 8 ml (.int v :: .int u :: r) t Q = vc xs zH_166 n true d 166 9 ml (.int (u + v) :: r) t Q := by
  rw [vc_q (o := (6, 0, 0, 0, [])) (by decide +kernel)]; rfl
theorem v_166_9 (xs : Option (List Int32)) (n : Nat) (b : Bool) (d : Nat) (ml : List Value) (t : T) (Q : Option Value → T → Prop) (st : List Value) : vc xs zH_166 (n + 1) b d 166 9 ml st t Q = vgi ml 2 (fun v => vc xs zH_166 n true d 166 10 ml (.int v :: st) t Q) := by
  rw [vc_q (o := (1, 0, 2, 0, [])) (by decide +kernel)]; rfl
theorem v_166_10 (xs : Option (List Int32)) (n : Nat) (b : Bool) (d : Nat) (ml : List Value) (t : T) (Q : Option Value → T → Prop) (u : Int32) (r : List Value) : vc xs zH_166 (n + 1) b d 166 10 ml (.int u :: r) t Q = (if u = 0 then vc xs zH_166 n true d 166 17 ml r t Q else vc xs zH_166 n true d 166 13 ml r t Q) := by
  rw [vc_q (o := (21, 0, 17, 0, [])) (by decide +kernel)]; rfl
theorem v_166_13 (xs : Option (List Int32)) (n : Nat) (b : Bool) (d : Nat) (ml : List Value) (t : T) (Q : Option Value → T → Prop) (st : List Value) : vc xs zH_166 (n + 1) b d 166 13 ml st t Q = vc xs zH_166 n true d 166 14 ml (.int 1 :: st) t Q := by
  rw [vc_q (o := (0, 1, 0, 0, [])) (by decide +kernel)]; rfl
theorem v_166_14 (xs : Option (List Int32)) (n : Nat) (b : Bool) (d : Nat) (ml : List Value) (t : T) (Q : Option Value → T → Prop) (st : List Value) : vc xs zH_166 (n + 1) b d 166 14 ml st t Q = vc xs zH_166 n true d 166 18 ml st t Q := by
  rw [vc_q (o := (22, 0, 18, 0, [])) (by decide +kernel)]; rfl
theorem v_166_17 (xs : Option (List Int32)) (n : Nat) (b : Bool) (d : Nat) (ml : List Value) (t : T) (Q : Option Value → T → Prop) (st : List Value) : vc xs zH_166 (n + 1) b d 166 17 ml st t Q = vc xs zH_166 n true d 166 18 ml (.int 0 :: st) t Q := by
  rw [vc_q (o := (0, 0, 0, 0, [])) (by decide +kernel)]; rfl
theorem v_166_18 (xs : Option (List Int32)) (n : Nat) (b : Bool) (d : Nat) (ml : List Value) (t : T) (Q : Option Value → T → Prop) (w v : Int32) (u : Nat) (r : List Value) : vc xs zH_166 (n + 1) b d 166 18 ml (.int w :: .int v :: .ref u :: r) t Q = (vtag u = 100 ∧ vinb v (vlen u) ∧ vc xs zH_166 n true d 166 19 ml r (tsi t u v.toNatClampNeg w) Q) := by
  rw [vc_q (o := (32, 0, 0, 0, [])) (by decide +kernel)]; rfl
theorem v_166_19 (xs : Option (List Int32)) (n : Nat) (b : Bool) (d : Nat) (ml : List Value) (t : T) (Q : Option Value → T → Prop)  : vc xs zH_166 (n + 1) b d 166 19 ml [] t Q = Q none t := by
  rw [vc_q (o := (43, 0, 0, 0, [])) (by decide +kernel)]; rfl
def zH_167 : List Nat := []
theorem v_167_0 (xs : Option (List Int32)) (n : Nat) (b : Bool) (d : Nat) (ml : List Value) (t : T) (Q : Option Value → T → Prop) (st : List Value) : vc xs zH_167 (n + 1) b d 167 0 ml st t Q = vga ml 0 (fun v => vc xs zH_167 n true d 167 1 ml (.ref v :: st) t Q) := by
  rw [vc_q (o := (2, 0, 0, 0, [])) (by decide +kernel)]; rfl
theorem v_167_1 (xs : Option (List Int32)) (n : Nat) (b : Bool) (d : Nat) (ml : List Value) (t : T) (Q : Option Value → T → Prop) (u : Nat) (r : List Value) : vc xs zH_167 (n + 1) b d 167 1 ml (.ref u :: r) t Q = (vtag u = 4 ∧ vc xs zH_167 n true d 167 4 ml (.ref (tref t u 1) :: r) t Q) := by
  rw [vc_q (o := (25, 0, 4, 1, [])) (by decide +kernel)]; rfl
theorem v_167_4 (xs : Option (List Int32)) (n : Nat) (b : Bool) (d : Nat) (ml : List Value) (t : T) (Q : Option Value → T → Prop) (st : List Value) : vc xs zH_167 (n + 1) b d 167 4 ml st t Q = vc xs zH_167 n true d 167 5 ml (.int 2 :: st) t Q := by
  rw [vc_q (o := (0, 2, 0, 0, [])) (by decide +kernel)]; rfl
theorem v_167_5 (xs : Option (List Int32)) (n : Nat) (b : Bool) (d : Nat) (ml : List Value) (t : T) (Q : Option Value → T → Prop) (st : List Value) : vc xs zH_167 (n + 1) b d 167 5 ml st t Q = vc xs zH_167 n true d 167 7 ml (.int 104 :: st) t Q := by
  rw [vc_q (o := (0, 104, 1, 0, [])) (by decide +kernel)]; rfl
theorem v_167_7 (xs : Option (List Int32)) (n : Nat) (b : Bool) (d : Nat) (ml : List Value) (t : T) (Q : Option Value → T → Prop) (st : List Value) : vc xs zH_167 (n + 1) b d 167 7 ml st t Q = vc xs zH_167 n true d 167 8 ml (.int 0 :: st) t Q := by
  rw [vc_q (o := (0, 0, 0, 0, [])) (by decide +kernel)]; rfl
theorem v_167_8 (xs : Option (List Int32)) (n : Nat) (b : Bool) (d : Nat) (ml : List Value) (t : T) (Q : Option Value → T → Prop) (st : List Value) : vc xs zH_167 (n + 1) b d 167 8 ml st t Q = (st.all zc1 = true ∧ vtk 4 st [] (fun as rest => rest.length ≤ 8 ∧ twc d 173 as t (fun r t' => vc xs zH_167 n true d 167 11 ml (r.toList ++ rest) t' Q))) := by
  rw [vc_q (o := (37, 0, 173, 4, [])) (by decide +kernel)]; rfl
theorem v_167_11 (xs : Option (List Int32)) (n : Nat) (b : Bool) (d : Nat) (ml : List Value) (t : T) (Q : Option Value → T → Prop) (st : List Value) : vc xs zH_167 (n + 1) b d 167 11 ml st t Q = vga ml 0 (fun v => vc xs zH_167 n true d 167 12 ml (.ref v :: st) t Q) := by
  rw [vc_q (o := (2, 0, 0, 0, [])) (by decide +kernel)]; rfl
theorem v_167_12 (xs : Option (List Int32)) (n : Nat) (b : Bool) (d : Nat) (ml : List Value) (t : T) (Q : Option Value → T → Prop) (st : List Value) : vc xs zH_167 (n + 1) b d 167 12 ml st t Q = vgi ml 1 (fun v => vc xs zH_167 n true d 167 13 ml (.int v :: st) t Q) := by
  rw [vc_q (o := (1, 0, 1, 0, [])) (by decide +kernel)]; rfl
theorem v_167_13 (xs : Option (List Int32)) (n : Nat) (b : Bool) (d : Nat) (ml : List Value) (t : T) (Q : Option Value → T → Prop) (v : Int32) (u : Nat) (r : List Value) : vc xs zH_167 (n + 1) b d 167 13 ml (.int v :: .ref u :: r) t Q = (vtag u = 4 ∧ vc xs zH_167 n true d 167 16 ml r (tsi t u 0 v) Q) := by
  rw [vc_q (o := (26, 0, 4, 0, [])) (by decide +kernel)]; rfl
theorem v_167_16 (xs : Option (List Int32)) (n : Nat) (b : Bool) (d : Nat) (ml : List Value) (t : T) (Q : Option Value → T → Prop)  : vc xs zH_167 (n + 1) b d 167 16 ml [] t Q = Q none t := by
  rw [vc_q (o := (43, 0, 0, 0, [])) (by decide +kernel)]; rfl
def zH_168 : List Nat := []
theorem v_168_0 (xs : Option (List Int32)) (n : Nat) (b : Bool) (d : Nat) (ml : List Value) (t : T) (Q : Option Value → T → Prop) (st : List Value) : vc xs zH_168 (n + 1) b d 168 0 ml st t Q = vga ml 1 (fun v => vc xs zH_168 n true d 168 1 ml (.ref v :: st) t Q) := by
  rw [vc_q (o := (2, 0, 1, 0, [])) (by decide +kernel)]; rfl
theorem v_168_1 (xs : Option (List Int32)) (n : Nat) (b : Bool) (d : Nat) (ml : List Value) (t : T) (Q : Option Value → T → Prop) (u : Nat) (r : List Value) : vc xs zH_168 (n + 1) b d 168 1 ml (.ref u :: r) t Q = (vtag u = 4 ∧ vc xs zH_168 n true d 168 4 ml (.ref (tref t u 1) :: r) t Q) := by
  rw [vc_q (o := (25, 0, 4, 1, [])) (by decide +kernel)]; rfl
theorem v_168_4 (xs : Option (List Int32)) (n : Nat) (b : Bool) (d : Nat) (ml : List Value) (t : T) (Q : Option Value → T → Prop) (st : List Value) : vc xs zH_168 (n + 1) b d 168 4 ml st t Q = vc xs zH_168 n true d 168 5 ml (.int 0 :: st) t Q := by
  rw [vc_q (o := (0, 0, 0, 0, [])) (by decide +kernel)]; rfl
theorem v_168_5 (xs : Option (List Int32)) (n : Nat) (b : Bool) (d : Nat) (ml : List Value) (t : T) (Q : Option Value → T → Prop) (st : List Value) : vc xs zH_168 (n + 1) b d 168 5 ml st t Q = vga ml 0 (fun v => vc xs zH_168 n true d 168 6 ml (.ref v :: st) t Q) := by
  rw [vc_q (o := (2, 0, 0, 0, [])) (by decide +kernel)]; rfl
theorem v_168_6 (xs : Option (List Int32)) (n : Nat) (b : Bool) (d : Nat) (ml : List Value) (t : T) (Q : Option Value → T → Prop) (u : Nat) (r : List Value) : vc xs zH_168 (n + 1) b d 168 6 ml (.ref u :: r) t Q = (vtag u = 4 ∧ vc xs zH_168 n true d 168 9 ml (.ref (tref t u 1) :: r) t Q) := by
  rw [vc_q (o := (25, 0, 4, 1, [])) (by decide +kernel)]; rfl
theorem v_168_9 (xs : Option (List Int32)) (n : Nat) (b : Bool) (d : Nat) (ml : List Value) (t : T) (Q : Option Value → T → Prop) (st : List Value) : vc xs zH_168 (n + 1) b d 168 9 ml st t Q = vc xs zH_168 n true d 168 10 ml (.int 0 :: st) t Q := by
  rw [vc_q (o := (0, 0, 0, 0, [])) (by decide +kernel)]; rfl
theorem v_168_10 (xs : Option (List Int32)) (n : Nat) (b : Bool) (d : Nat) (ml : List Value) (t : T) (Q : Option Value → T → Prop) (st : List Value) : vc xs zH_168 (n + 1) b d 168 10 ml st t Q = vc xs zH_168 n true d 168 12 ml (.int 104 :: st) t Q := by
  rw [vc_q (o := (0, 104, 1, 0, [])) (by decide +kernel)]; rfl
theorem v_168_12 (xs : Option (List Int32)) (n : Nat) (b : Bool) (d : Nat) (ml : List Value) (t : T) (Q : Option Value → T → Prop) (k dp : Int32) (w : Nat) (sp : Int32) (u : Nat) (r : List Value) : vc xs zH_168 (n + 1) b d 168 12 ml (.int k :: .int dp :: .ref w :: .int sp :: .ref u :: r) t Q = (vtag u = 100 ∧ vtag w = 100 ∧ ¬ sp < 0 ∧ ¬ dp < 0 ∧ ¬ k < 0 ∧ sp.toNatClampNeg + k.toNatClampNeg ≤ vlen u ∧ dp.toNatClampNeg + k.toNatClampNeg ≤ vlen w ∧ r.length ≤ 8 ∧ r.all zc1 = true ∧ vc xs zH_168 n true d 168 15 ml r (tcp t u sp.toNatClampNeg w dp.toNatClampNeg k.toNatClampNeg) Q) := by
  rw [vc_q (o := (38, 0, 0, 0, [])) (by decide +kernel)]; rfl
theorem v_168_15 (xs : Option (List Int32)) (n : Nat) (b : Bool) (d : Nat) (ml : List Value) (t : T) (Q : Option Value → T → Prop) (st : List Value) : vc xs zH_168 (n + 1) b d 168 15 ml st t Q = vga ml 0 (fun v => vc xs zH_168 n true d 168 16 ml (.ref v :: st) t Q) := by
  rw [vc_q (o := (2, 0, 0, 0, [])) (by decide +kernel)]; rfl
theorem v_168_16 (xs : Option (List Int32)) (n : Nat) (b : Bool) (d : Nat) (ml : List Value) (t : T) (Q : Option Value → T → Prop) (st : List Value) : vc xs zH_168 (n + 1) b d 168 16 ml st t Q = vga ml 1 (fun v => vc xs zH_168 n true d 168 17 ml (.ref v :: st) t Q) := by
  rw [vc_q (o := (2, 0, 1, 0, [])) (by decide +kernel)]; rfl
theorem v_168_17 (xs : Option (List Int32)) (n : Nat) (b : Bool) (d : Nat) (ml : List Value) (t : T) (Q : Option Value → T → Prop) (u : Nat) (r : List Value) : vc xs zH_168 (n + 1) b d 168 17 ml (.ref u :: r) t Q = (vtag u = 4 ∧ vc xs zH_168 n true d 168 20 ml (.int (t.1 u 0) :: r) t Q) := by
  rw [vc_q (o := (24, 0, 4, 0, [])) (by decide +kernel)]; rfl
theorem v_168_20 (xs : Option (List Int32)) (n : Nat) (b : Bool) (d : Nat) (ml : List Value) (t : T) (Q : Option Value → T → Prop) (v : Int32) (u : Nat) (r : List Value) : vc xs zH_168 (n + 1) b d 168 20 ml (.int v :: .ref u :: r) t Q = (vtag u = 4 ∧ vc xs zH_168 n true d 168 23 ml r (tsi t u 0 v) Q) := by
  rw [vc_q (o := (26, 0, 4, 0, [])) (by decide +kernel)]; rfl
theorem v_168_23 (xs : Option (List Int32)) (n : Nat) (b : Bool) (d : Nat) (ml : List Value) (t : T) (Q : Option Value → T → Prop)  : vc xs zH_168 (n + 1) b d 168 23 ml [] t Q = Q none t := by
  rw [vc_q (o := (43, 0, 0, 0, [])) (by decide +kernel)]; rfl
