def zH_90 : List Nat := [42]
theorem v_90_0 (xs : Option (List Int32)) (n : Nat) (b : Bool) (d : Nat) (ml : List Value) (t : T) (Q : Option Value → T → Prop) (st : List Value) : vc xs zH_90 (n + 1) b d 90 0 ml st t Q = vga ml 0 (fun v => vc xs zH_90 n true d 90 1 ml (.ref v :: st) t Q) := by
  rw [vc_q (o := (2, 0, 0, 0, [])) (by decide +kernel)]; rfl
theorem v_90_1 (xs : Option (List Int32)) (n : Nat) (b : Bool) (d : Nat) (ml : List Value) (t : T) (Q : Option Value → T → Prop) (st : List Value) : vc xs zH_90 (n + 1) b d 90 1 ml st t Q = vgi ml 2 (fun v => vc xs zH_90 n true d 90 2 ml (.int v :: st) t Q) := by
  rw [vc_q (o := (1, 0, 2, 0, [])) (by decide +kernel)]; rfl
theorem v_90_2 (xs : Option (List Int32)) (n : Nat) (b : Bool) (d : Nat) (ml : List Value) (t : T) (Q : Option Value → T → Prop) (st : List Value) : vc xs zH_90 (n + 1) b d 90 2 ml st t Q = vc xs zH_90 n true d 90 5 ml (.int 140 :: st) t Q := by
  rw [vc_q (o := (0, 140, 2, 0, [])) (by decide +kernel)]; rfl
theorem v_90_5 (xs : Option (List Int32)) (n : Nat) (b : Bool) (d : Nat) (ml : List Value) (t : T) (Q : Option Value → T → Prop) (st : List Value) : vc xs zH_90 (n + 1) b d 90 5 ml st t Q = (st.all zc1 = true ∧ vtk 3 st [] (fun as rest => rest.length ≤ 8 ∧ vrc as 12 (twc d 44 as t (fun r t' => vc xs zH_90 n true d 90 8 ml (r.toList ++ rest) t' Q)))) := by
  rw [vc_q (o := (36, 0, 44, 2, [(0, 12)])) (by decide +kernel)]; rfl
theorem v_90_8 (xs : Option (List Int32)) (n : Nat) (b : Bool) (d : Nat) (ml : List Value) (t : T) (Q : Option Value → T → Prop) (st : List Value) : vc xs zH_90 (n + 1) b d 90 8 ml st t Q = vga ml 0 (fun v => vc xs zH_90 n true d 90 9 ml (.ref v :: st) t Q) := by
  rw [vc_q (o := (2, 0, 0, 0, [])) (by decide +kernel)]; rfl
theorem v_90_9 (xs : Option (List Int32)) (n : Nat) (b : Bool) (d : Nat) (ml : List Value) (t : T) (Q : Option Value → T → Prop) (u : Nat) (r : List Value) : vc xs zH_90 (n + 1) b d 90 9 ml (.ref u :: r) t Q = (vtag u = 12 ∧ vc xs zH_90 n true d 90 12 ml (.ref (tref t u 17) :: r) t Q) := by
  rw [vc_q (o := (25, 0, 12, 17, [])) (by decide +kernel)]; rfl
theorem v_90_12 (xs : Option (List Int32)) (n : Nat) (b : Bool) (d : Nat) (ml : List Value) (t : T) (Q : Option Value → T → Prop) (st : List Value) : vc xs zH_90 (n + 1) b d 90 12 ml st t Q = vgi ml 1 (fun v => vc xs zH_90 n true d 90 13 ml (.int v :: st) t Q) := by
  rw [vc_q (o := (1, 0, 1, 0, [])) (by decide +kernel)]; rfl
theorem v_90_13 (xs : Option (List Int32)) (n : Nat) (b : Bool) (d : Nat) (ml : List Value) (t : T) (Q : Option Value → T → Prop) (v : Int32) (u : Nat) (r : List Value) : vc xs zH_90 (n + 1) b d 90 13 ml (.int v :: .ref u :: r) t Q = (vtag u = 100 ∧ vinb v (vlen u) ∧ vc xs zH_90 n true d 90 14 ml (.int (t.1 u v.toNatClampNeg) :: r) t Q) := by
  rw [vc_q (o := (29, 0, 0, 0, [])) (by decide +kernel)]; rfl
theorem v_90_14 (xs : Option (List Int32)) (n : Nat) (b : Bool) (d : Nat) (ml : List Value) (t : T) (Q : Option Value → T → Prop) (v : Int32) (r : List Value) : vc xs zH_90 (n + 1) b d 90 14 ml (.int v :: r) t Q = vset ml 3 (.int v) (fun l => vc xs zH_90 n true d 90 15 l r t Q) := by
  rw [vc_q (o := (3, 0, 3, 0, [])) (by decide +kernel)]; rfl
theorem v_90_15 (xs : Option (List Int32)) (n : Nat) (b : Bool) (d : Nat) (ml : List Value) (t : T) (Q : Option Value → T → Prop) (st : List Value) : vc xs zH_90 (n + 1) b d 90 15 ml st t Q = vga ml 0 (fun v => vc xs zH_90 n true d 90 16 ml (.ref v :: st) t Q) := by
  rw [vc_q (o := (2, 0, 0, 0, [])) (by decide +kernel)]; rfl
theorem v_90_16 (xs : Option (List Int32)) (n : Nat) (b : Bool) (d : Nat) (ml : List Value) (t : T) (Q : Option Value → T → Prop) (st : List Value) : vc xs zH_90 (n + 1) b d 90 16 ml st t Q = vgi ml 3 (fun v => vc xs zH_90 n true d 90 17 ml (.int v :: st) t Q) := by
  rw [vc_q (o := (1, 0, 3, 0, [])) (by decide +kernel)]; rfl
theorem v_90_17 (xs : Option (List Int32)) (n : Nat) (b : Bool) (d : Nat) (ml : List Value) (t : T) (Q : Option Value → T → Prop) (st : List Value) : vc xs zH_90 (n + 1) b d 90 17 ml st t Q = vc xs zH_90 n true d 90 19 ml (.int 16 :: st) t Q := by
  rw [vc_q (o := (0, 16, 1, 0, [])) (by decide +kernel)]; rfl
theorem v_90_19 (xs : Option (List Int32)) (n : Nat) (b : Bool) (d : Nat) (ml : List Value) (t : T) (Q : Option Value → T → Prop) (u v : Int32) (r : List Value) : vc xs zH_90 (n + 1) b d 90 19 ml (.int v :: .int u :: r) t Q = (¬ v = 0 ∧ vc xs zH_90 n true d 90 20 ml (.int (u - u / v * v) :: r) t Q) := by
  rw [vc_q (o := (15, 0, 0, 0, [])) (by decide +kernel)]; rfl
theorem v_90_20 (xs : Option (List Int32)) (n : Nat) (b : Bool) (d : Nat) (ml : List Value) (t : T) (Q : Option Value → T → Prop) (st : List Value) : vc xs zH_90 (n + 1) b d 90 20 ml st t Q = vgi ml 3 (fun v => vc xs zH_90 n true d 90 21 ml (.int v :: st) t Q) := by
  rw [vc_q (o := (1, 0, 3, 0, [])) (by decide +kernel)]; rfl
theorem v_90_21 (xs : Option (List Int32)) (n : Nat) (b : Bool) (d : Nat) (ml : List Value) (t : T) (Q : Option Value → T → Prop) (st : List Value) : vc xs zH_90 (n + 1) b d 90 21 ml st t Q = vc xs zH_90 n true d 90 23 ml (.int 16 :: st) t Q := by
  rw [vc_q (o := (0, 16, 1, 0, [])) (by decide +kernel)]; rfl
theorem v_90_23 (xs : Option (List Int32)) (n : Nat) (b : Bool) (d : Nat) (ml : List Value) (t : T) (Q : Option Value → T → Prop) (u v : Int32) (r : List Value) : vc xs zH_90 (n + 1) b d 90 23 ml (.int v :: .int u :: r) t Q = (¬ v = 0 ∧ vc xs zH_90 n true d 90 24 ml (.int (u / v) :: r) t Q) := by
  rw [vc_q (o := (14, 0, 0, 0, [])) (by decide +kernel)]; rfl
theorem v_90_24 (xs : Option (List Int32)) (n : Nat) (b : Bool) (d : Nat) (ml : List Value) (t : T) (Q : Option Value → T → Prop) (st : List Value) : vc xs zH_90 (n + 1) b d 90 24 ml st t Q = vc xs zH_90 n true d 90 26 ml (.int 16 :: st) t Q := by
  rw [vc_q (o := (0, 16, 1, 0, [])) (by decide +kernel)]; rfl
theorem v_90_26 (xs : Option (List Int32)) (n : Nat) (b : Bool) (d : Nat) (ml : List Value) (t : T) (Q : Option Value → T → Prop) (u v : Int32) (r : List Value) : vc xs zH_90 (n + 1) b d 90 26 ml (.int v :: .int u :: r) t Q = (¬ v = 0 ∧ vc xs zH_90 n true d 90 27 ml (.int (u - u / v * v) :: r) t Q) := by
  rw [vc_q (o := (15, 0, 0, 0, [])) (by decide +kernel)]; rfl
theorem v_90_27 (xs : Option (List Int32)) (n : Nat) (b : Bool) (d : Nat) (ml : List Value) (t : T) (Q : Option Value → T → Prop) (st : List Value) : vc xs zH_90 (n + 1) b d 90 27 ml st t Q = (st.all zc1 = true ∧ vtk 3 st [] (fun as rest => rest.length ≤ 8 ∧ vrc as 12 (twc d 81 as t (fun r t' => vc xs zH_90 n true d 90 30 ml (r.toList ++ rest) t' Q)))) := by
  rw [vc_q (o := (36, 0, 81, 2, [(0, 12)])) (by decide +kernel)]; rfl
theorem v_90_30 (xs : Option (List Int32)) (n : Nat) (b : Bool) (d : Nat) (ml : List Value) (t : T) (Q : Option Value → T → Prop) (u : Int32) (r : List Value) : vc xs zH_90 (n + 1) b d 90 30 ml (.int u :: r) t Q = (if u = 0 then vc xs zH_90 n true d 90 33 ml r t Q else vc xs zH_90 n true d 90 36 ml r t Q) := by
  rw [vc_q (o := (21, 0, 36, 1, [])) (by decide +kernel)]; rfl
theorem v_90_33 (xs : Option (List Int32)) (n : Nat) (b : Bool) (d : Nat) (ml : List Value) (t : T) (Q : Option Value → T → Prop) (st : List Value) : vc xs zH_90 (n + 1) b d 90 33 ml st t Q = vc xs zH_90 n true d 90 35 ml (.int (-3) :: st) t Q := by
  rw [vc_q (o := (0, (-3), 1, 0, [])) (by decide +kernel)]; rfl
theorem v_90_35 (xs : Option (List Int32)) (n : Nat) (b : Bool) (d : Nat) (ml : List Value) (t : T) (Q : Option Value → T → Prop) (v : Int32) : vc xs zH_90 (n + 1) b d 90 35 ml [.int v] t Q = Q (some (.int v)) t := by
  rw [vc_q (o := (40, 0, 0, 0, [])) (by decide +kernel)]; rfl
theorem v_90_36 (xs : Option (List Int32)) (n : Nat) (b : Bool) (d : Nat) (ml : List Value) (t : T) (Q : Option Value → T → Prop) (st : List Value) : vc xs zH_90 (n + 1) b d 90 36 ml st t Q = vc xs zH_90 n true d 90 37 ml (.int 0 :: st) t Q := by
  rw [vc_q (o := (0, 0, 0, 0, [])) (by decide +kernel)]; rfl
theorem v_90_37 (xs : Option (List Int32)) (n : Nat) (b : Bool) (d : Nat) (ml : List Value) (t : T) (Q : Option Value → T → Prop) (v : Int32) (r : List Value) : vc xs zH_90 (n + 1) b d 90 37 ml (.int v :: r) t Q = vset ml 4 (.int v) (fun l => vc xs zH_90 n true d 90 39 l r t Q) := by
  rw [vc_q (o := (3, 0, 4, 1, [])) (by decide +kernel)]; rfl
theorem v_90_39 (xs : Option (List Int32)) (n : Nat) (b : Bool) (d : Nat) (ml : List Value) (t : T) (Q : Option Value → T → Prop) (st : List Value) : vc xs zH_90 (n + 1) b d 90 39 ml st t Q = vc xs zH_90 n true d 90 40 ml (.int 0 :: st) t Q := by
  rw [vc_q (o := (0, 0, 0, 0, [])) (by decide +kernel)]; rfl
theorem v_90_40 (xs : Option (List Int32)) (n : Nat) (b : Bool) (d : Nat) (ml : List Value) (t : T) (Q : Option Value → T → Prop) (v : Int32) (r : List Value) : vc xs zH_90 (n + 1) b d 90 40 ml (.int v :: r) t Q = vset ml 5 (.int v) (fun l => vc xs zH_90 n true d 90 42 l r t Q) := by
  rw [vc_q (o := (3, 0, 5, 1, [])) (by decide +kernel)]; rfl
theorem v_90_42 (xs : Option (List Int32)) (n : Nat) (d : Nat) (ml : List Value) (t : T) (Q : Option Value → T → Prop) (st : List Value) : vc xs zH_90 (n + 1) false d 90 42 ml st t Q = vgi ml 5 (fun v => vc xs zH_90 n true d 90 44 ml (.int v :: st) t Q) := by
  rw [vc_q (o := (1, 0, 5, 1, [])) (by decide +kernel)]; rfl
theorem h_90_42 (xs : Option (List Int32)) (n d : Nat) (ml st : List Value) (t : T) (Q : Option Value → T → Prop) : vc xs zH_90 (n + 1) true d 90 42 ml st t Q = twp xs d 90 42 ml st t Q := id rfl
theorem v_90_44 (xs : Option (List Int32)) (n : Nat) (b : Bool) (d : Nat) (ml : List Value) (t : T) (Q : Option Value → T → Prop) (st : List Value) : vc xs zH_90 (n + 1) b d 90 44 ml st t Q = vga ml 0 (fun v => vc xs zH_90 n true d 90 45 ml (.ref v :: st) t Q) := by
  rw [vc_q (o := (2, 0, 0, 0, [])) (by decide +kernel)]; rfl
theorem v_90_45 (xs : Option (List Int32)) (n : Nat) (b : Bool) (d : Nat) (ml : List Value) (t : T) (Q : Option Value → T → Prop) (u : Nat) (r : List Value) : vc xs zH_90 (n + 1) b d 90 45 ml (.ref u :: r) t Q = (vtag u = 12 ∧ vc xs zH_90 n true d 90 48 ml (.int (t.1 u 26) :: r) t Q) := by
  rw [vc_q (o := (24, 0, 12, 26, [])) (by decide +kernel)]; rfl
theorem v_90_48 (xs : Option (List Int32)) (n : Nat) (b : Bool) (d : Nat) (ml : List Value) (t : T) (Q : Option Value → T → Prop) (u v : Int32) (r : List Value) : vc xs zH_90 (n + 1) b d 90 48 ml (.int v :: .int u :: r) t Q = (if u < v then vc xs zH_90 n true d 90 51 ml r t Q else vc xs zH_90 n true d 90 132 ml r t Q) := by
  rw [vc_q (o := (20, 0, 132, 3, [])) (by decide +kernel)]; rfl
theorem v_90_51 (xs : Option (List Int32)) (n : Nat) (b : Bool) (d : Nat) (ml : List Value) (t : T) (Q : Option Value → T → Prop) (st : List Value) : vc xs zH_90 (n + 1) b d 90 51 ml st t Q = vc xs zH_90 n true d 90 54 ml (.int 140 :: st) t Q := by
  rw [vc_q (o := (0, 140, 2, 0, [])) (by decide +kernel)]; rfl
theorem v_90_54 (xs : Option (List Int32)) (n : Nat) (b : Bool) (d : Nat) (ml : List Value) (t : T) (Q : Option Value → T → Prop) (st : List Value) : vc xs zH_90 (n + 1) b d 90 54 ml st t Q = vgi ml 5 (fun v => vc xs zH_90 n true d 90 56 ml (.int v :: st) t Q) := by
  rw [vc_q (o := (1, 0, 5, 1, [])) (by decide +kernel)]; rfl
theorem v_90_56 (xs : Option (List Int32)) (n : Nat) (b : Bool) (d : Nat) (ml : List Value) (t : T) (Q : Option Value → T → Prop) (u v : Int32) (r : List Value) : vc xs zH_90 (n + 1) b d 90 56 ml (.int v :: .int u :: r) t Q = vc xs zH_90 n true d 90 57 ml (.int (u + v) :: r) t Q := by
  rw [vc_q (o := (6, 0, 0, 0, [])) (by decide +kernel)]; rfl
theorem v_90_57 (xs : Option (List Int32)) (n : Nat) (b : Bool) (d : Nat) (ml : List Value) (t : T) (Q : Option Value → T → Prop) (v : Int32) (r : List Value) : vc xs zH_90 (n + 1) b d 90 57 ml (.int v :: r) t Q = vset ml 6 (.int v) (fun l => vc xs zH_90 n true d 90 59 l r t Q) := by
  rw [vc_q (o := (3, 0, 6, 1, [])) (by decide +kernel)]; rfl
theorem v_90_59 (xs : Option (List Int32)) (n : Nat) (b : Bool) (d : Nat) (ml : List Value) (t : T) (Q : Option Value → T → Prop) (st : List Value) : vc xs zH_90 (n + 1) b d 90 59 ml st t Q = vga ml 0 (fun v => vc xs zH_90 n true d 90 60 ml (.ref v :: st) t Q) := by
  rw [vc_q (o := (2, 0, 0, 0, [])) (by decide +kernel)]; rfl
theorem v_90_60 (xs : Option (List Int32)) (n : Nat) (b : Bool) (d : Nat) (ml : List Value) (t : T) (Q : Option Value → T → Prop) (st : List Value) : vc xs zH_90 (n + 1) b d 90 60 ml st t Q = vgi ml 6 (fun v => vc xs zH_90 n true d 90 62 ml (.int v :: st) t Q) := by
  rw [vc_q (o := (1, 0, 6, 1, [])) (by decide +kernel)]; rfl
theorem v_90_62 (xs : Option (List Int32)) (n : Nat) (b : Bool) (d : Nat) (ml : List Value) (t : T) (Q : Option Value → T → Prop) (st : List Value) : vc xs zH_90 (n + 1) b d 90 62 ml st t Q = vga ml 0 (fun v => vc xs zH_90 n true d 90 63 ml (.ref v :: st) t Q) := by
  rw [vc_q (o := (2, 0, 0, 0, [])) (by decide +kernel)]; rfl
theorem v_90_63 (xs : Option (List Int32)) (n : Nat) (b : Bool) (d : Nat) (ml : List Value) (t : T) (Q : Option Value → T → Prop) (u : Nat) (r : List Value) : vc xs zH_90 (n + 1) b d 90 63 ml (.ref u :: r) t Q = (vtag u = 12 ∧ vc xs zH_90 n true d 90 66 ml (.ref (tref t u 18) :: r) t Q) := by
  rw [vc_q (o := (25, 0, 12, 18, [])) (by decide +kernel)]; rfl
theorem v_90_66 (xs : Option (List Int32)) (n : Nat) (b : Bool) (d : Nat) (ml : List Value) (t : T) (Q : Option Value → T → Prop) (st : List Value) : vc xs zH_90 (n + 1) b d 90 66 ml st t Q = vgi ml 1 (fun v => vc xs zH_90 n true d 90 67 ml (.int v :: st) t Q) := by
  rw [vc_q (o := (1, 0, 1, 0, [])) (by decide +kernel)]; rfl
theorem v_90_67 (xs : Option (List Int32)) (n : Nat) (b : Bool) (d : Nat) (ml : List Value) (t : T) (Q : Option Value → T → Prop) (v : Int32) (u : Nat) (r : List Value) : vc xs zH_90 (n + 1) b d 90 67 ml (.int v :: .ref u :: r) t Q = (vtag u = 100 ∧ vinb v (vlen u) ∧ vc xs zH_90 n true d 90 68 ml (.int (t.1 u v.toNatClampNeg) :: r) t Q) := by
  rw [vc_q (o := (29, 0, 0, 0, [])) (by decide +kernel)]; rfl
theorem v_90_68 (xs : Option (List Int32)) (n : Nat) (b : Bool) (d : Nat) (ml : List Value) (t : T) (Q : Option Value → T → Prop) (st : List Value) : vc xs zH_90 (n + 1) b d 90 68 ml st t Q = vc xs zH_90 n true d 90 69 ml (.int 0 :: st) t Q := by
  rw [vc_q (o := (0, 0, 0, 0, [])) (by decide +kernel)]; rfl
theorem v_90_69 (xs : Option (List Int32)) (n : Nat) (b : Bool) (d : Nat) (ml : List Value) (t : T) (Q : Option Value → T → Prop) (st : List Value) : vc xs zH_90 (n + 1) b d 90 69 ml st t Q = vc xs zH_90 n true d 90 70 ml (.int 0 :: st) t Q := by
  rw [vc_q (o := (0, 0, 0, 0, [])) (by decide +kernel)]; rfl
theorem v_90_70 (xs : Option (List Int32)) (n : Nat) (b : Bool) (d : Nat) (ml : List Value) (t : T) (Q : Option Value → T → Prop) (st : List Value) : vc xs zH_90 (n + 1) b d 90 70 ml st t Q = (st.all zc1 = true ∧ vtk 5 st [] (fun as rest => rest.length ≤ 8 ∧ vrc as 12 (twc d 68 as t (fun r t' => vc xs zH_90 n true d 90 73 ml (r.toList ++ rest) t' Q)))) := by
  rw [vc_q (o := (36, 0, 68, 4, [(0, 12)])) (by decide +kernel)]; rfl
theorem v_90_73 (xs : Option (List Int32)) (n : Nat) (b : Bool) (d : Nat) (ml : List Value) (t : T) (Q : Option Value → T → Prop) (u : Int32) (r : List Value) : vc xs zH_90 (n + 1) b d 90 73 ml (.int u :: r) t Q = (if u = 0 then vc xs zH_90 n true d 90 126 ml r t Q else vc xs zH_90 n true d 90 76 ml r t Q) := by
  rw [vc_q (o := (21, 0, 126, 0, [])) (by decide +kernel)]; rfl
theorem v_90_76 (xs : Option (List Int32)) (n : Nat) (b : Bool) (d : Nat) (ml : List Value) (t : T) (Q : Option Value → T → Prop) (st : List Value) : vc xs zH_90 (n + 1) b d 90 76 ml st t Q = vgi ml 3 (fun v => vc xs zH_90 n true d 90 77 ml (.int v :: st) t Q) := by
  rw [vc_q (o := (1, 0, 3, 0, [])) (by decide +kernel)]; rfl
theorem v_90_77 (xs : Option (List Int32)) (n : Nat) (b : Bool) (d : Nat) (ml : List Value) (t : T) (Q : Option Value → T → Prop) (st : List Value) : vc xs zH_90 (n + 1) b d 90 77 ml st t Q = vc xs zH_90 n true d 90 80 ml (.int 256 :: st) t Q := by
  rw [vc_q (o := (0, 256, 2, 0, [])) (by decide +kernel)]; rfl
theorem v_90_80 (xs : Option (List Int32)) (n : Nat) (b : Bool) (d : Nat) (ml : List Value) (t : T) (Q : Option Value → T → Prop) (u v : Int32) (r : List Value) : vc xs zH_90 (n + 1) b d 90 80 ml (.int v :: .int u :: r) t Q = (if u < v then vc xs zH_90 n true d 90 95 ml r t Q else vc xs zH_90 n true d 90 83 ml r t Q) := by
  rw [vc_q (o := (20, 0, 95, 2, [])) (by decide +kernel)]; rfl
theorem v_90_83 (xs : Option (List Int32)) (n : Nat) (b : Bool) (d : Nat) (ml : List Value) (t : T) (Q : Option Value → T → Prop) (st : List Value) : vc xs zH_90 (n + 1) b d 90 83 ml st t Q = vga ml 0 (fun v => vc xs zH_90 n true d 90 84 ml (.ref v :: st) t Q) := by
  rw [vc_q (o := (2, 0, 0, 0, [])) (by decide +kernel)]; rfl
theorem v_90_84 (xs : Option (List Int32)) (n : Nat) (b : Bool) (d : Nat) (ml : List Value) (t : T) (Q : Option Value → T → Prop) (st : List Value) : vc xs zH_90 (n + 1) b d 90 84 ml st t Q = vgi ml 6 (fun v => vc xs zH_90 n true d 90 86 ml (.int v :: st) t Q) := by
  rw [vc_q (o := (1, 0, 6, 1, [])) (by decide +kernel)]; rfl
theorem v_90_86 (xs : Option (List Int32)) (n : Nat) (b : Bool) (d : Nat) (ml : List Value) (t : T) (Q : Option Value → T → Prop) (st : List Value) : vc xs zH_90 (n + 1) b d 90 86 ml st t Q = (st.all zc1 = true ∧ vtk 2 st [] (fun as rest => rest.length ≤ 8 ∧ vrc as 12 (twc d 88 as t (fun r t' => vc xs zH_90 n true d 90 89 ml (r.toList ++ rest) t' Q)))) := by
  rw [vc_q (o := (36, 0, 88, 1, [(0, 12)])) (by decide +kernel)]; rfl
theorem v_90_89 (xs : Option (List Int32)) (n : Nat) (b : Bool) (d : Nat) (ml : List Value) (t : T) (Q : Option Value → T → Prop) (u : Int32) (r : List Value) : vc xs zH_90 (n + 1) b d 90 89 ml (.int u :: r) t Q = (if u = 0 then vc xs zH_90 n true d 90 92 ml r t Q else vc xs zH_90 n true d 90 95 ml r t Q) := by
  rw [vc_q (o := (21, 0, 95, 1, [])) (by decide +kernel)]; rfl
theorem v_90_92 (xs : Option (List Int32)) (n : Nat) (b : Bool) (d : Nat) (ml : List Value) (t : T) (Q : Option Value → T → Prop) (st : List Value) : vc xs zH_90 (n + 1) b d 90 92 ml st t Q = vc xs zH_90 n true d 90 94 ml (.int (-3) :: st) t Q := by
  rw [vc_q (o := (0, (-3), 1, 0, [])) (by decide +kernel)]; rfl
theorem v_90_94 (xs : Option (List Int32)) (n : Nat) (b : Bool) (d : Nat) (ml : List Value) (t : T) (Q : Option Value → T → Prop) (v : Int32) : vc xs zH_90 (n + 1) b d 90 94 ml [.int v] t Q = Q (some (.int v)) t := by
  rw [vc_q (o := (40, 0, 0, 0, [])) (by decide +kernel)]; rfl
theorem v_90_95 (xs : Option (List Int32)) (n : Nat) (b : Bool) (d : Nat) (ml : List Value) (t : T) (Q : Option Value → T → Prop) (st : List Value) : vc xs zH_90 (n + 1) b d 90 95 ml st t Q = vga ml 0 (fun v => vc xs zH_90 n true d 90 96 ml (.ref v :: st) t Q) := by
  rw [vc_q (o := (2, 0, 0, 0, [])) (by decide +kernel)]; rfl
theorem v_90_96 (xs : Option (List Int32)) (n : Nat) (b : Bool) (d : Nat) (ml : List Value) (t : T) (Q : Option Value → T → Prop) (st : List Value) : vc xs zH_90 (n + 1) b d 90 96 ml st t Q = vgi ml 6 (fun v => vc xs zH_90 n true d 90 98 ml (.int v :: st) t Q) := by
  rw [vc_q (o := (1, 0, 6, 1, [])) (by decide +kernel)]; rfl
theorem v_90_98 (xs : Option (List Int32)) (n : Nat) (b : Bool) (d : Nat) (ml : List Value) (t : T) (Q : Option Value → T → Prop) (st : List Value) : vc xs zH_90 (n + 1) b d 90 98 ml st t Q = vgi ml 1 (fun v => vc xs zH_90 n true d 90 99 ml (.int v :: st) t Q) := by
  rw [vc_q (o := (1, 0, 1, 0, [])) (by decide +kernel)]; rfl
theorem v_90_99 (xs : Option (List Int32)) (n : Nat) (b : Bool) (d : Nat) (ml : List Value) (t : T) (Q : Option Value → T → Prop) (st : List Value) : vc xs zH_90 (n + 1) b d 90 99 ml st t Q = (st.all zc1 = true ∧ vtk 3 st [] (fun as rest => rest.length ≤ 8 ∧ vrc as 12 (twc d 89 as t (fun r t' => vc xs zH_90 n true d 90 102 ml (r.toList ++ rest) t' Q)))) := by
  rw [vc_q (o := (36, 0, 89, 2, [(0, 12)])) (by decide +kernel)]; rfl
theorem v_90_102 (xs : Option (List Int32)) (n : Nat) (b : Bool) (d : Nat) (ml : List Value) (t : T) (Q : Option Value → T → Prop) (st : List Value) : vc xs zH_90 (n + 1) b d 90 102 ml st t Q = vga ml 0 (fun v => vc xs zH_90 n true d 90 103 ml (.ref v :: st) t Q) := by
  rw [vc_q (o := (2, 0, 0, 0, [])) (by decide +kernel)]; rfl
theorem v_90_103 (xs : Option (List Int32)) (n : Nat) (b : Bool) (d : Nat) (ml : List Value) (t : T) (Q : Option Value → T → Prop) (st : List Value) : vc xs zH_90 (n + 1) b d 90 103 ml st t Q = vgi ml 6 (fun v => vc xs zH_90 n true d 90 105 ml (.int v :: st) t Q) := by
  rw [vc_q (o := (1, 0, 6, 1, [])) (by decide +kernel)]; rfl
theorem v_90_105 (xs : Option (List Int32)) (n : Nat) (b : Bool) (d : Nat) (ml : List Value) (t : T) (Q : Option Value → T → Prop) (st : List Value) : vc xs zH_90 (n + 1) b d 90 105 ml st t Q = (st.all zc1 = true ∧ vtk 2 st [] (fun as rest => rest.length ≤ 8 ∧ vrc as 12 (twc d 83 as t (fun r t' => vc xs zH_90 n true d 90 108 ml (r.toList ++ rest) t' Q)))) := by
  rw [vc_q (o := (36, 0, 83, 1, [(0, 12)])) (by decide +kernel)]; rfl
theorem v_90_108 (xs : Option (List Int32)) (n : Nat) (b : Bool) (d : Nat) (ml : List Value) (t : T) (Q : Option Value → T → Prop) (u : Int32) (r : List Value) : vc xs zH_90 (n + 1) b d 90 108 ml (.int u :: r) t Q = (if u = 0 then vc xs zH_90 n true d 90 126 ml r t Q else vc xs zH_90 n true d 90 111 ml r t Q) := by
  rw [vc_q (o := (21, 0, 126, 0, [])) (by decide +kernel)]; rfl
theorem v_90_111 (xs : Option (List Int32)) (n : Nat) (b : Bool) (d : Nat) (ml : List Value) (t : T) (Q : Option Value → T → Prop) (st : List Value) : vc xs zH_90 (n + 1) b d 90 111 ml st t Q = vga ml 0 (fun v => vc xs zH_90 n true d 90 112 ml (.ref v :: st) t Q) := by
  rw [vc_q (o := (2, 0, 0, 0, [])) (by decide +kernel)]; rfl
theorem v_90_112 (xs : Option (List Int32)) (n : Nat) (b : Bool) (d : Nat) (ml : List Value) (t : T) (Q : Option Value → T → Prop) (st : List Value) : vc xs zH_90 (n + 1) b d 90 112 ml st t Q = vgi ml 6 (fun v => vc xs zH_90 n true d 90 114 ml (.int v :: st) t Q) := by
  rw [vc_q (o := (1, 0, 6, 1, [])) (by decide +kernel)]; rfl
theorem v_90_114 (xs : Option (List Int32)) (n : Nat) (b : Bool) (d : Nat) (ml : List Value) (t : T) (Q : Option Value → T → Prop) (st : List Value) : vc xs zH_90 (n + 1) b d 90 114 ml st t Q = vc xs zH_90 n true d 90 117 ml (.int 140 :: st) t Q := by
  rw [vc_q (o := (0, 140, 2, 0, [])) (by decide +kernel)]; rfl
theorem v_90_117 (xs : Option (List Int32)) (n : Nat) (b : Bool) (d : Nat) (ml : List Value) (t : T) (Q : Option Value → T → Prop) (st : List Value) : vc xs zH_90 (n + 1) b d 90 117 ml st t Q = vgi ml 4 (fun v => vc xs zH_90 n true d 90 119 ml (.int v :: st) t Q) := by
  rw [vc_q (o := (1, 0, 4, 1, [])) (by decide +kernel)]; rfl
theorem v_90_119 (xs : Option (List Int32)) (n : Nat) (b : Bool) (d : Nat) (ml : List Value) (t : T) (Q : Option Value → T → Prop) (u v : Int32) (r : List Value) : vc xs zH_90 (n + 1) b d 90 119 ml (.int v :: .int u :: r) t Q = vc xs zH_90 n true d 90 120 ml (.int (u + v) :: r) t Q := by
  rw [vc_q (o := (6, 0, 0, 0, [])) (by decide +kernel)]; rfl
theorem v_90_120 (xs : Option (List Int32)) (n : Nat) (b : Bool) (d : Nat) (ml : List Value) (t : T) (Q : Option Value → T → Prop) (st : List Value) : vc xs zH_90 (n + 1) b d 90 120 ml st t Q = (st.all zc1 = true ∧ vtk 3 st [] (fun as rest => rest.length ≤ 8 ∧ vrc as 12 (twc d 44 as t (fun r t' => vc xs zH_90 n true d 90 123 ml (r.toList ++ rest) t' Q)))) := by
  rw [vc_q (o := (36, 0, 44, 2, [(0, 12)])) (by decide +kernel)]; rfl
theorem v_90_123 (xs : Option (List Int32)) (n : Nat) (b : Bool) (d : Nat) (ml : List Value) (t : T) (Q : Option Value → T → Prop) (st : List Value) : vc xs zH_90 (n + 1) b d 90 123 ml st t Q = vgi ml 4 (fun v => vset ml 4 (.int (v + 1)) (fun l => vc xs zH_90 n true d 90 126 l st t Q)) := by
  rw [vc_q (o := (5, 1, 4, 0, [])) (by decide +kernel)]; rfl
theorem v_90_126 (xs : Option (List Int32)) (n : Nat) (b : Bool) (d : Nat) (ml : List Value) (t : T) (Q : Option Value → T → Prop) (st : List Value) : vc xs zH_90 (n + 1) b d 90 126 ml st t Q = vgi ml 5 (fun v => vset ml 5 (.int (v + 1)) (fun l => vc xs zH_90 n true d 90 129 l st t Q)) := by
  rw [vc_q (o := (5, 1, 5, 0, [])) (by decide +kernel)]; rfl
theorem v_90_129 (xs : Option (List Int32)) (n : Nat) (b : Bool) (d : Nat) (ml : List Value) (t : T) (Q : Option Value → T → Prop) (st : List Value) : vc xs zH_90 (n + 1) b d 90 129 ml st t Q = vc xs zH_90 n true d 90 42 ml st t Q := by
  rw [vc_q (o := (22, 0, 42, 0, [])) (by decide +kernel)]; rfl
theorem v_90_132 (xs : Option (List Int32)) (n : Nat) (b : Bool) (d : Nat) (ml : List Value) (t : T) (Q : Option Value → T → Prop) (st : List Value) : vc xs zH_90 (n + 1) b d 90 132 ml st t Q = vgi ml 4 (fun v => vc xs zH_90 n true d 90 134 ml (.int v :: st) t Q) := by
  rw [vc_q (o := (1, 0, 4, 1, [])) (by decide +kernel)]; rfl
theorem v_90_134 (xs : Option (List Int32)) (n : Nat) (b : Bool) (d : Nat) (ml : List Value) (t : T) (Q : Option Value → T → Prop) (v : Int32) : vc xs zH_90 (n + 1) b d 90 134 ml [.int v] t Q = Q (some (.int v)) t := by
  rw [vc_q (o := (40, 0, 0, 0, [])) (by decide +kernel)]; rfl
def zH_91 : List Nat := [37]
theorem v_91_0 (xs : Option (List Int32)) (n : Nat) (b : Bool) (d : Nat) (ml : List Value) (t : T) (Q : Option Value → T → Prop) (st : List Value) : vc xs zH_91 (n + 1) b d 91 0 ml st t Q = vgi ml 1 (fun v => vc xs zH_91 n true d 91 1 ml (.int v :: st) t Q) := by
  rw [vc_q (o := (1, 0, 1, 0, [])) (by decide +kernel)]; rfl
theorem v_91_1 (xs : Option (List Int32)) (n : Nat) (b : Bool) (d : Nat) (ml : List Value) (t : T) (Q : Option Value → T → Prop) (u : Int32) (r : List Value) : vc xs zH_91 (n + 1) b d 91 1 ml (.int u :: r) t Q = (if u < 0 then vc xs zH_91 n true d 91 19 ml r t Q else vc xs zH_91 n true d 91 4 ml r t Q) := by
  rw [vc_q (o := (21, 0, 19, 2, [])) (by decide +kernel)]; rfl
theorem v_91_4 (xs : Option (List Int32)) (n : Nat) (b : Bool) (d : Nat) (ml : List Value) (t : T) (Q : Option Value → T → Prop) (st : List Value) : vc xs zH_91 (n + 1) b d 91 4 ml st t Q = vgi ml 1 (fun v => vc xs zH_91 n true d 91 5 ml (.int v :: st) t Q) := by
  rw [vc_q (o := (1, 0, 1, 0, [])) (by decide +kernel)]; rfl
theorem v_91_5 (xs : Option (List Int32)) (n : Nat) (b : Bool) (d : Nat) (ml : List Value) (t : T) (Q : Option Value → T → Prop) (st : List Value) : vc xs zH_91 (n + 1) b d 91 5 ml st t Q = vga ml 0 (fun v => vc xs zH_91 n true d 91 6 ml (.ref v :: st) t Q) := by
  rw [vc_q (o := (2, 0, 0, 0, [])) (by decide +kernel)]; rfl
theorem v_91_6 (xs : Option (List Int32)) (n : Nat) (b : Bool) (d : Nat) (ml : List Value) (t : T) (Q : Option Value → T → Prop) (u : Nat) (r : List Value) : vc xs zH_91 (n + 1) b d 91 6 ml (.ref u :: r) t Q = (vtag u = 12 ∧ vc xs zH_91 n true d 91 9 ml (.int (t.1 u 14) :: r) t Q) := by
  rw [vc_q (o := (24, 0, 12, 14, [])) (by decide +kernel)]; rfl
theorem v_91_9 (xs : Option (List Int32)) (n : Nat) (b : Bool) (d : Nat) (ml : List Value) (t : T) (Q : Option Value → T → Prop) (u v : Int32) (r : List Value) : vc xs zH_91 (n + 1) b d 91 9 ml (.int v :: .int u :: r) t Q = (if u < v then vc xs zH_91 n true d 91 12 ml r t Q else vc xs zH_91 n true d 91 19 ml r t Q) := by
  rw [vc_q (o := (20, 0, 19, 3, [])) (by decide +kernel)]; rfl
theorem v_91_12 (xs : Option (List Int32)) (n : Nat) (b : Bool) (d : Nat) (ml : List Value) (t : T) (Q : Option Value → T → Prop) (st : List Value) : vc xs zH_91 (n + 1) b d 91 12 ml st t Q = vgi ml 2 (fun v => vc xs zH_91 n true d 91 13 ml (.int v :: st) t Q) := by
  rw [vc_q (o := (1, 0, 2, 0, [])) (by decide +kernel)]; rfl
theorem v_91_13 (xs : Option (List Int32)) (n : Nat) (b : Bool) (d : Nat) (ml : List Value) (t : T) (Q : Option Value → T → Prop) (st : List Value) : vc xs zH_91 (n + 1) b d 91 13 ml st t Q = (st.all zc1 = true ∧ vtk 1 st [] (fun as rest => rest.length ≤ 8 ∧ twc d 47 as t (fun r t' => vc xs zH_91 n true d 91 16 ml (r.toList ++ rest) t' Q))) := by
  rw [vc_q (o := (37, 0, 47, 1, [])) (by decide +kernel)]; rfl
theorem v_91_16 (xs : Option (List Int32)) (n : Nat) (b : Bool) (d : Nat) (ml : List Value) (t : T) (Q : Option Value → T → Prop) (u : Int32) (r : List Value) : vc xs zH_91 (n + 1) b d 91 16 ml (.int u :: r) t Q = (if u = 0 then vc xs zH_91 n true d 91 19 ml r t Q else vc xs zH_91 n true d 91 21 ml r t Q) := by
  rw [vc_q (o := (21, 0, 21, 1, [])) (by decide +kernel)]; rfl
theorem v_91_19 (xs : Option (List Int32)) (n : Nat) (b : Bool) (d : Nat) (ml : List Value) (t : T) (Q : Option Value → T → Prop) (st : List Value) : vc xs zH_91 (n + 1) b d 91 19 ml st t Q = vc xs zH_91 n true d 91 20 ml (.int (-1) :: st) t Q := by
  rw [vc_q (o := (0, (-1), 0, 0, [])) (by decide +kernel)]; rfl
theorem v_91_20 (xs : Option (List Int32)) (n : Nat) (b : Bool) (d : Nat) (ml : List Value) (t : T) (Q : Option Value → T → Prop) (v : Int32) : vc xs zH_91 (n + 1) b d 91 20 ml [.int v] t Q = Q (some (.int v)) t := by
  rw [vc_q (o := (40, 0, 0, 0, [])) (by decide +kernel)]; rfl
theorem v_91_21 (xs : Option (List Int32)) (n : Nat) (b : Bool) (d : Nat) (ml : List Value) (t : T) (Q : Option Value → T → Prop) (st : List Value) : vc xs zH_91 (n + 1) b d 91 21 ml st t Q = vga ml 0 (fun v => vc xs zH_91 n true d 91 22 ml (.ref v :: st) t Q) := by
  rw [vc_q (o := (2, 0, 0, 0, [])) (by decide +kernel)]; rfl
theorem v_91_22 (xs : Option (List Int32)) (n : Nat) (b : Bool) (d : Nat) (ml : List Value) (t : T) (Q : Option Value → T → Prop) (st : List Value) : vc xs zH_91 (n + 1) b d 91 22 ml st t Q = vgi ml 1 (fun v => vc xs zH_91 n true d 91 23 ml (.int v :: st) t Q) := by
  rw [vc_q (o := (1, 0, 1, 0, [])) (by decide +kernel)]; rfl
theorem v_91_23 (xs : Option (List Int32)) (n : Nat) (b : Bool) (d : Nat) (ml : List Value) (t : T) (Q : Option Value → T → Prop) (st : List Value) : vc xs zH_91 (n + 1) b d 91 23 ml st t Q = vgi ml 2 (fun v => vc xs zH_91 n true d 91 24 ml (.int v :: st) t Q) := by
  rw [vc_q (o := (1, 0, 2, 0, [])) (by decide +kernel)]; rfl
theorem v_91_24 (xs : Option (List Int32)) (n : Nat) (b : Bool) (d : Nat) (ml : List Value) (t : T) (Q : Option Value → T → Prop) (st : List Value) : vc xs zH_91 (n + 1) b d 91 24 ml st t Q = (st.all zc1 = true ∧ vtk 3 st [] (fun as rest => rest.length ≤ 8 ∧ vrc as 12 (twc d 90 as t (fun r t' => vc xs zH_91 n true d 91 27 ml (r.toList ++ rest) t' Q)))) := by
  rw [vc_q (o := (36, 0, 90, 2, [(0, 12)])) (by decide +kernel)]; rfl
theorem v_91_27 (xs : Option (List Int32)) (n : Nat) (b : Bool) (d : Nat) (ml : List Value) (t : T) (Q : Option Value → T → Prop) (v : Int32) (r : List Value) : vc xs zH_91 (n + 1) b d 91 27 ml (.int v :: r) t Q = vset ml 3 (.int v) (fun l => vc xs zH_91 n true d 91 28 l r t Q) := by
  rw [vc_q (o := (3, 0, 3, 0, [])) (by decide +kernel)]; rfl
theorem v_91_28 (xs : Option (List Int32)) (n : Nat) (b : Bool) (d : Nat) (ml : List Value) (t : T) (Q : Option Value → T → Prop) (st : List Value) : vc xs zH_91 (n + 1) b d 91 28 ml st t Q = vgi ml 3 (fun v => vc xs zH_91 n true d 91 29 ml (.int v :: st) t Q) := by
  rw [vc_q (o := (1, 0, 3, 0, [])) (by decide +kernel)]; rfl
theorem v_91_29 (xs : Option (List Int32)) (n : Nat) (b : Bool) (d : Nat) (ml : List Value) (t : T) (Q : Option Value → T → Prop) (u : Int32) (r : List Value) : vc xs zH_91 (n + 1) b d 91 29 ml (.int u :: r) t Q = (if u < 0 then vc xs zH_91 n true d 91 32 ml r t Q else vc xs zH_91 n true d 91 34 ml r t Q) := by
  rw [vc_q (o := (21, 0, 34, 3, [])) (by decide +kernel)]; rfl
theorem v_91_32 (xs : Option (List Int32)) (n : Nat) (b : Bool) (d : Nat) (ml : List Value) (t : T) (Q : Option Value → T → Prop) (st : List Value) : vc xs zH_91 (n + 1) b d 91 32 ml st t Q = vgi ml 3 (fun v => vc xs zH_91 n true d 91 33 ml (.int v :: st) t Q) := by
  rw [vc_q (o := (1, 0, 3, 0, [])) (by decide +kernel)]; rfl
theorem v_91_33 (xs : Option (List Int32)) (n : Nat) (b : Bool) (d : Nat) (ml : List Value) (t : T) (Q : Option Value → T → Prop) (v : Int32) : vc xs zH_91 (n + 1) b d 91 33 ml [.int v] t Q = Q (some (.int v)) t := by
  rw [vc_q (o := (40, 0, 0, 0, [])) (by decide +kernel)]; rfl
theorem v_91_34 (xs : Option (List Int32)) (n : Nat) (b : Bool) (d : Nat) (ml : List Value) (t : T) (Q : Option Value → T → Prop) (st : List Value) : vc xs zH_91 (n + 1) b d 91 34 ml st t Q = vc xs zH_91 n true d 91 35 ml (.int 0 :: st) t Q := by
  rw [vc_q (o := (0, 0, 0, 0, [])) (by decide +kernel)]; rfl
theorem v_91_35 (xs : Option (List Int32)) (n : Nat) (b : Bool) (d : Nat) (ml : List Value) (t : T) (Q : Option Value → T → Prop) (v : Int32) (r : List Value) : vc xs zH_91 (n + 1) b d 91 35 ml (.int v :: r) t Q = vset ml 4 (.int v) (fun l => vc xs zH_91 n true d 91 37 l r t Q) := by
  rw [vc_q (o := (3, 0, 4, 1, [])) (by decide +kernel)]; rfl
theorem v_91_37 (xs : Option (List Int32)) (n : Nat) (d : Nat) (ml : List Value) (t : T) (Q : Option Value → T → Prop) (st : List Value) : vc xs zH_91 (n + 1) false d 91 37 ml st t Q = vgi ml 4 (fun v => vc xs zH_91 n true d 91 39 ml (.int v :: st) t Q) := by
  rw [vc_q (o := (1, 0, 4, 1, [])) (by decide +kernel)]; rfl
theorem h_91_37 (xs : Option (List Int32)) (n d : Nat) (ml st : List Value) (t : T) (Q : Option Value → T → Prop) : vc xs zH_91 (n + 1) true d 91 37 ml st t Q = twp xs d 91 37 ml st t Q := id rfl
theorem v_91_39 (xs : Option (List Int32)) (n : Nat) (b : Bool) (d : Nat) (ml : List Value) (t : T) (Q : Option Value → T → Prop) (st : List Value) : vc xs zH_91 (n + 1) b d 91 39 ml st t Q = vgi ml 3 (fun v => vc xs zH_91 n true d 91 40 ml (.int v :: st) t Q) := by
  rw [vc_q (o := (1, 0, 3, 0, [])) (by decide +kernel)]; rfl
theorem v_91_40 (xs : Option (List Int32)) (n : Nat) (b : Bool) (d : Nat) (ml : List Value) (t : T) (Q : Option Value → T → Prop) (u v : Int32) (r : List Value) : vc xs zH_91 (n + 1) b d 91 40 ml (.int v :: .int u :: r) t Q = (if u < v then vc xs zH_91 n true d 91 43 ml r t Q else vc xs zH_91 n true d 91 64 ml r t Q) := by
  rw [vc_q (o := (20, 0, 64, 3, [])) (by decide +kernel)]; rfl
theorem v_91_43 (xs : Option (List Int32)) (n : Nat) (b : Bool) (d : Nat) (ml : List Value) (t : T) (Q : Option Value → T → Prop) (st : List Value) : vc xs zH_91 (n + 1) b d 91 43 ml st t Q = vga ml 0 (fun v => vc xs zH_91 n true d 91 44 ml (.ref v :: st) t Q) := by
  rw [vc_q (o := (2, 0, 0, 0, [])) (by decide +kernel)]; rfl
theorem v_91_44 (xs : Option (List Int32)) (n : Nat) (b : Bool) (d : Nat) (ml : List Value) (t : T) (Q : Option Value → T → Prop) (st : List Value) : vc xs zH_91 (n + 1) b d 91 44 ml st t Q = vc xs zH_91 n true d 91 47 ml (.int 140 :: st) t Q := by
  rw [vc_q (o := (0, 140, 2, 0, [])) (by decide +kernel)]; rfl
theorem v_91_47 (xs : Option (List Int32)) (n : Nat) (b : Bool) (d : Nat) (ml : List Value) (t : T) (Q : Option Value → T → Prop) (st : List Value) : vc xs zH_91 (n + 1) b d 91 47 ml st t Q = vgi ml 4 (fun v => vc xs zH_91 n true d 91 49 ml (.int v :: st) t Q) := by
  rw [vc_q (o := (1, 0, 4, 1, [])) (by decide +kernel)]; rfl
theorem v_91_49 (xs : Option (List Int32)) (n : Nat) (b : Bool) (d : Nat) (ml : List Value) (t : T) (Q : Option Value → T → Prop) (u v : Int32) (r : List Value) : vc xs zH_91 (n + 1) b d 91 49 ml (.int v :: .int u :: r) t Q = vc xs zH_91 n true d 91 50 ml (.int (u + v) :: r) t Q := by
  rw [vc_q (o := (6, 0, 0, 0, [])) (by decide +kernel)]; rfl
theorem v_91_50 (xs : Option (List Int32)) (n : Nat) (b : Bool) (d : Nat) (ml : List Value) (t : T) (Q : Option Value → T → Prop) (st : List Value) : vc xs zH_91 (n + 1) b d 91 50 ml st t Q = vc xs zH_91 n true d 91 52 ml (.int 100 :: st) t Q := by
  rw [vc_q (o := (0, 100, 1, 0, [])) (by decide +kernel)]; rfl
theorem v_91_52 (xs : Option (List Int32)) (n : Nat) (b : Bool) (d : Nat) (ml : List Value) (t : T) (Q : Option Value → T → Prop) (st : List Value) : vc xs zH_91 (n + 1) b d 91 52 ml st t Q = vgi ml 4 (fun v => vc xs zH_91 n true d 91 54 ml (.int v :: st) t Q) := by
  rw [vc_q (o := (1, 0, 4, 1, [])) (by decide +kernel)]; rfl
theorem v_91_54 (xs : Option (List Int32)) (n : Nat) (b : Bool) (d : Nat) (ml : List Value) (t : T) (Q : Option Value → T → Prop) (u v : Int32) (r : List Value) : vc xs zH_91 (n + 1) b d 91 54 ml (.int v :: .int u :: r) t Q = vc xs zH_91 n true d 91 55 ml (.int (u + v) :: r) t Q := by
  rw [vc_q (o := (6, 0, 0, 0, [])) (by decide +kernel)]; rfl
theorem v_91_55 (xs : Option (List Int32)) (n : Nat) (b : Bool) (d : Nat) (ml : List Value) (t : T) (Q : Option Value → T → Prop) (st : List Value) : vc xs zH_91 (n + 1) b d 91 55 ml st t Q = (st.all zc1 = true ∧ vtk 3 st [] (fun as rest => rest.length ≤ 8 ∧ vrc as 12 (twc d 44 as t (fun r t' => vc xs zH_91 n true d 91 58 ml (r.toList ++ rest) t' Q)))) := by
  rw [vc_q (o := (36, 0, 44, 2, [(0, 12)])) (by decide +kernel)]; rfl
theorem v_91_58 (xs : Option (List Int32)) (n : Nat) (b : Bool) (d : Nat) (ml : List Value) (t : T) (Q : Option Value → T → Prop) (st : List Value) : vc xs zH_91 (n + 1) b d 91 58 ml st t Q = vgi ml 4 (fun v => vset ml 4 (.int (v + 1)) (fun l => vc xs zH_91 n true d 91 61 l st t Q)) := by
  rw [vc_q (o := (5, 1, 4, 0, [])) (by decide +kernel)]; rfl
theorem v_91_61 (xs : Option (List Int32)) (n : Nat) (b : Bool) (d : Nat) (ml : List Value) (t : T) (Q : Option Value → T → Prop) (st : List Value) : vc xs zH_91 (n + 1) b d 91 61 ml st t Q = vc xs zH_91 n true d 91 37 ml st t Q := by
  rw [vc_q (o := (22, 0, 37, 0, [])) (by decide +kernel)]; rfl
theorem v_91_64 (xs : Option (List Int32)) (n : Nat) (b : Bool) (d : Nat) (ml : List Value) (t : T) (Q : Option Value → T → Prop) (st : List Value) : vc xs zH_91 (n + 1) b d 91 64 ml st t Q = vga ml 0 (fun v => vc xs zH_91 n true d 91 65 ml (.ref v :: st) t Q) := by
  rw [vc_q (o := (2, 0, 0, 0, [])) (by decide +kernel)]; rfl
theorem v_91_65 (xs : Option (List Int32)) (n : Nat) (b : Bool) (d : Nat) (ml : List Value) (t : T) (Q : Option Value → T → Prop) (st : List Value) : vc xs zH_91 (n + 1) b d 91 65 ml st t Q = vc xs zH_91 n true d 91 67 ml (.int 100 :: st) t Q := by
  rw [vc_q (o := (0, 100, 1, 0, [])) (by decide +kernel)]; rfl
theorem v_91_67 (xs : Option (List Int32)) (n : Nat) (b : Bool) (d : Nat) (ml : List Value) (t : T) (Q : Option Value → T → Prop) (st : List Value) : vc xs zH_91 (n + 1) b d 91 67 ml st t Q = vgi ml 3 (fun v => vc xs zH_91 n true d 91 68 ml (.int v :: st) t Q) := by
  rw [vc_q (o := (1, 0, 3, 0, [])) (by decide +kernel)]; rfl
theorem v_91_68 (xs : Option (List Int32)) (n : Nat) (b : Bool) (d : Nat) (ml : List Value) (t : T) (Q : Option Value → T → Prop) (st : List Value) : vc xs zH_91 (n + 1) b d 91 68 ml st t Q = (st.all zc1 = true ∧ vtk 3 st [] (fun as rest => rest.length ≤ 8 ∧ vrc as 12 (twc d 46 as t (fun r t' => vc xs zH_91 n true d 91 71 ml (r.toList ++ rest) t' Q)))) := by
  rw [vc_q (o := (36, 0, 46, 2, [(0, 12)])) (by decide +kernel)]; rfl
theorem v_91_71 (xs : Option (List Int32)) (n : Nat) (b : Bool) (d : Nat) (ml : List Value) (t : T) (Q : Option Value → T → Prop) (st : List Value) : vc xs zH_91 (n + 1) b d 91 71 ml st t Q = vga ml 0 (fun v => vc xs zH_91 n true d 91 72 ml (.ref v :: st) t Q) := by
  rw [vc_q (o := (2, 0, 0, 0, [])) (by decide +kernel)]; rfl
theorem v_91_72 (xs : Option (List Int32)) (n : Nat) (b : Bool) (d : Nat) (ml : List Value) (t : T) (Q : Option Value → T → Prop) (st : List Value) : vc xs zH_91 (n + 1) b d 91 72 ml st t Q = vgi ml 3 (fun v => vc xs zH_91 n true d 91 73 ml (.int v :: st) t Q) := by
  rw [vc_q (o := (1, 0, 3, 0, [])) (by decide +kernel)]; rfl
theorem v_91_73 (xs : Option (List Int32)) (n : Nat) (b : Bool) (d : Nat) (ml : List Value) (t : T) (Q : Option Value → T → Prop) (v : Int32) (u : Nat) (r : List Value) : vc xs zH_91 (n + 1) b d 91 73 ml (.int v :: .ref u :: r) t Q = (vtag u = 12 ∧ vc xs zH_91 n true d 91 76 ml r (tsi t u 22 v) Q) := by
  rw [vc_q (o := (26, 0, 12, 22, [])) (by decide +kernel)]; rfl
theorem v_91_76 (xs : Option (List Int32)) (n : Nat) (b : Bool) (d : Nat) (ml : List Value) (t : T) (Q : Option Value → T → Prop) (st : List Value) : vc xs zH_91 (n + 1) b d 91 76 ml st t Q = vgi ml 3 (fun v => vc xs zH_91 n true d 91 77 ml (.int v :: st) t Q) := by
  rw [vc_q (o := (1, 0, 3, 0, [])) (by decide +kernel)]; rfl
theorem v_91_77 (xs : Option (List Int32)) (n : Nat) (b : Bool) (d : Nat) (ml : List Value) (t : T) (Q : Option Value → T → Prop) (v : Int32) : vc xs zH_91 (n + 1) b d 91 77 ml [.int v] t Q = Q (some (.int v)) t := by
  rw [vc_q (o := (40, 0, 0, 0, [])) (by decide +kernel)]; rfl
def zH_92 : List Nat := []
theorem v_92_0 (xs : Option (List Int32)) (n : Nat) (b : Bool) (d : Nat) (ml : List Value) (t : T) (Q : Option Value → T → Prop) (st : List Value) : vc xs zH_92 (n + 1) b d 92 0 ml st t Q = vgi ml 1 (fun v => vc xs zH_92 n true d 92 1 ml (.int v :: st) t Q) := by
  rw [vc_q (o := (1, 0, 1, 0, [])) (by decide +kernel)]; rfl
theorem v_92_1 (xs : Option (List Int32)) (n : Nat) (b : Bool) (d : Nat) (ml : List Value) (t : T) (Q : Option Value → T → Prop) (u : Int32) (r : List Value) : vc xs zH_92 (n + 1) b d 92 1 ml (.int u :: r) t Q = (if u < 0 then vc xs zH_92 n true d 92 19 ml r t Q else vc xs zH_92 n true d 92 4 ml r t Q) := by
  rw [vc_q (o := (21, 0, 19, 2, [])) (by decide +kernel)]; rfl
theorem v_92_4 (xs : Option (List Int32)) (n : Nat) (b : Bool) (d : Nat) (ml : List Value) (t : T) (Q : Option Value → T → Prop) (st : List Value) : vc xs zH_92 (n + 1) b d 92 4 ml st t Q = vgi ml 1 (fun v => vc xs zH_92 n true d 92 5 ml (.int v :: st) t Q) := by
  rw [vc_q (o := (1, 0, 1, 0, [])) (by decide +kernel)]; rfl
theorem v_92_5 (xs : Option (List Int32)) (n : Nat) (b : Bool) (d : Nat) (ml : List Value) (t : T) (Q : Option Value → T → Prop) (st : List Value) : vc xs zH_92 (n + 1) b d 92 5 ml st t Q = vga ml 0 (fun v => vc xs zH_92 n true d 92 6 ml (.ref v :: st) t Q) := by
  rw [vc_q (o := (2, 0, 0, 0, [])) (by decide +kernel)]; rfl
theorem v_92_6 (xs : Option (List Int32)) (n : Nat) (b : Bool) (d : Nat) (ml : List Value) (t : T) (Q : Option Value → T → Prop) (u : Nat) (r : List Value) : vc xs zH_92 (n + 1) b d 92 6 ml (.ref u :: r) t Q = (vtag u = 12 ∧ vc xs zH_92 n true d 92 9 ml (.int (t.1 u 22) :: r) t Q) := by
  rw [vc_q (o := (24, 0, 12, 22, [])) (by decide +kernel)]; rfl
theorem v_92_9 (xs : Option (List Int32)) (n : Nat) (b : Bool) (d : Nat) (ml : List Value) (t : T) (Q : Option Value → T → Prop) (u v : Int32) (r : List Value) : vc xs zH_92 (n + 1) b d 92 9 ml (.int v :: .int u :: r) t Q = (if u < v then vc xs zH_92 n true d 92 12 ml r t Q else vc xs zH_92 n true d 92 19 ml r t Q) := by
  rw [vc_q (o := (20, 0, 19, 3, [])) (by decide +kernel)]; rfl
theorem v_92_12 (xs : Option (List Int32)) (n : Nat) (b : Bool) (d : Nat) (ml : List Value) (t : T) (Q : Option Value → T → Prop) (st : List Value) : vc xs zH_92 (n + 1) b d 92 12 ml st t Q = vgi ml 2 (fun v => vc xs zH_92 n true d 92 13 ml (.int v :: st) t Q) := by
  rw [vc_q (o := (1, 0, 2, 0, [])) (by decide +kernel)]; rfl
theorem v_92_13 (xs : Option (List Int32)) (n : Nat) (b : Bool) (d : Nat) (ml : List Value) (t : T) (Q : Option Value → T → Prop) (st : List Value) : vc xs zH_92 (n + 1) b d 92 13 ml st t Q = (st.all zc1 = true ∧ vtk 1 st [] (fun as rest => rest.length ≤ 8 ∧ twc d 47 as t (fun r t' => vc xs zH_92 n true d 92 16 ml (r.toList ++ rest) t' Q))) := by
  rw [vc_q (o := (37, 0, 47, 1, [])) (by decide +kernel)]; rfl
theorem v_92_16 (xs : Option (List Int32)) (n : Nat) (b : Bool) (d : Nat) (ml : List Value) (t : T) (Q : Option Value → T → Prop) (u : Int32) (r : List Value) : vc xs zH_92 (n + 1) b d 92 16 ml (.int u :: r) t Q = (if u = 0 then vc xs zH_92 n true d 92 19 ml r t Q else vc xs zH_92 n true d 92 21 ml r t Q) := by
  rw [vc_q (o := (21, 0, 21, 1, [])) (by decide +kernel)]; rfl
theorem v_92_19 (xs : Option (List Int32)) (n : Nat) (b : Bool) (d : Nat) (ml : List Value) (t : T) (Q : Option Value → T → Prop) (st : List Value) : vc xs zH_92 (n + 1) b d 92 19 ml st t Q = vc xs zH_92 n true d 92 20 ml (.int 0 :: st) t Q := by
  rw [vc_q (o := (0, 0, 0, 0, [])) (by decide +kernel)]; rfl
theorem v_92_20 (xs : Option (List Int32)) (n : Nat) (b : Bool) (d : Nat) (ml : List Value) (t : T) (Q : Option Value → T → Prop) (v : Int32) : vc xs zH_92 (n + 1) b d 92 20 ml [.int v] t Q = ((v = 0 ∨ v = 1) ∧ Q (some (.int v)) t) := by
  rw [vc_q (o := (41, 0, 0, 0, [])) (by decide +kernel)]; rfl
theorem v_92_21 (xs : Option (List Int32)) (n : Nat) (b : Bool) (d : Nat) (ml : List Value) (t : T) (Q : Option Value → T → Prop) (st : List Value) : vc xs zH_92 (n + 1) b d 92 21 ml st t Q = vga ml 0 (fun v => vc xs zH_92 n true d 92 22 ml (.ref v :: st) t Q) := by
  rw [vc_q (o := (2, 0, 0, 0, [])) (by decide +kernel)]; rfl
theorem v_92_22 (xs : Option (List Int32)) (n : Nat) (b : Bool) (d : Nat) (ml : List Value) (t : T) (Q : Option Value → T → Prop) (st : List Value) : vc xs zH_92 (n + 1) b d 92 22 ml st t Q = vc xs zH_92 n true d 92 24 ml (.int 100 :: st) t Q := by
  rw [vc_q (o := (0, 100, 1, 0, [])) (by decide +kernel)]; rfl
theorem v_92_24 (xs : Option (List Int32)) (n : Nat) (b : Bool) (d : Nat) (ml : List Value) (t : T) (Q : Option Value → T → Prop) (st : List Value) : vc xs zH_92 (n + 1) b d 92 24 ml st t Q = vgi ml 1 (fun v => vc xs zH_92 n true d 92 25 ml (.int v :: st) t Q) := by
  rw [vc_q (o := (1, 0, 1, 0, [])) (by decide +kernel)]; rfl
theorem v_92_25 (xs : Option (List Int32)) (n : Nat) (b : Bool) (d : Nat) (ml : List Value) (t : T) (Q : Option Value → T → Prop) (u v : Int32) (r : List Value) : vc xs zH_92 (n + 1) b d 92 25 ml (.int v :: .int u :: r) t Q = vc xs zH_92 n true d 92 26 ml (.int (u + v) :: r) t Q := by
  rw [vc_q (o := (6, 0, 0, 0, [])) (by decide +kernel)]; rfl
theorem v_92_26 (xs : Option (List Int32)) (n : Nat) (b : Bool) (d : Nat) (ml : List Value) (t : T) (Q : Option Value → T → Prop) (st : List Value) : vc xs zH_92 (n + 1) b d 92 26 ml st t Q = vgi ml 2 (fun v => vc xs zH_92 n true d 92 27 ml (.int v :: st) t Q) := by
  rw [vc_q (o := (1, 0, 2, 0, [])) (by decide +kernel)]; rfl
theorem v_92_27 (xs : Option (List Int32)) (n : Nat) (b : Bool) (d : Nat) (ml : List Value) (t : T) (Q : Option Value → T → Prop) (st : List Value) : vc xs zH_92 (n + 1) b d 92 27 ml st t Q = (st.all zc1 = true ∧ vtk 3 st [] (fun as rest => rest.length ≤ 8 ∧ vrc as 12 (twc d 44 as t (fun r t' => vc xs zH_92 n true d 92 30 ml (r.toList ++ rest) t' Q)))) := by
  rw [vc_q (o := (36, 0, 44, 2, [(0, 12)])) (by decide +kernel)]; rfl
theorem v_92_30 (xs : Option (List Int32)) (n : Nat) (b : Bool) (d : Nat) (ml : List Value) (t : T) (Q : Option Value → T → Prop) (st : List Value) : vc xs zH_92 (n + 1) b d 92 30 ml st t Q = vc xs zH_92 n true d 92 31 ml (.int 1 :: st) t Q := by
  rw [vc_q (o := (0, 1, 0, 0, [])) (by decide +kernel)]; rfl
theorem v_92_31 (xs : Option (List Int32)) (n : Nat) (b : Bool) (d : Nat) (ml : List Value) (t : T) (Q : Option Value → T → Prop) (v : Int32) : vc xs zH_92 (n + 1) b d 92 31 ml [.int v] t Q = ((v = 0 ∨ v = 1) ∧ Q (some (.int v)) t) := by
  rw [vc_q (o := (41, 0, 0, 0, [])) (by decide +kernel)]; rfl
def zH_93 : List Nat := []
theorem v_93_0 (xs : Option (List Int32)) (n : Nat) (b : Bool) (d : Nat) (ml : List Value) (t : T) (Q : Option Value → T → Prop) (st : List Value) : vc xs zH_93 (n + 1) b d 93 0 ml st t Q = vgi ml 0 (fun v => vc xs zH_93 n true d 93 1 ml (.int v :: st) t Q) := by
  rw [vc_q (o := (1, 0, 0, 0, [])) (by decide +kernel)]; rfl
theorem v_93_1 (xs : Option (List Int32)) (n : Nat) (b : Bool) (d : Nat) (ml : List Value) (t : T) (Q : Option Value → T → Prop) (u : Int32) (r : List Value) : vc xs zH_93 (n + 1) b d 93 1 ml (.int u :: r) t Q = (if u < 0 then vc xs zH_93 n true d 93 13 ml r t Q else vc xs zH_93 n true d 93 4 ml r t Q) := by
  rw [vc_q (o := (21, 0, 13, 2, [])) (by decide +kernel)]; rfl
theorem v_93_4 (xs : Option (List Int32)) (n : Nat) (b : Bool) (d : Nat) (ml : List Value) (t : T) (Q : Option Value → T → Prop) (st : List Value) : vc xs zH_93 (n + 1) b d 93 4 ml st t Q = vgi ml 0 (fun v => vc xs zH_93 n true d 93 5 ml (.int v :: st) t Q) := by
  rw [vc_q (o := (1, 0, 0, 0, [])) (by decide +kernel)]; rfl
theorem v_93_5 (xs : Option (List Int32)) (n : Nat) (b : Bool) (d : Nat) (ml : List Value) (t : T) (Q : Option Value → T → Prop) (st : List Value) : vc xs zH_93 (n + 1) b d 93 5 ml st t Q = vc xs zH_93 n true d 93 6 ml (.int 4 :: st) t Q := by
  rw [vc_q (o := (0, 4, 0, 0, [])) (by decide +kernel)]; rfl
theorem v_93_6 (xs : Option (List Int32)) (n : Nat) (b : Bool) (d : Nat) (ml : List Value) (t : T) (Q : Option Value → T → Prop) (u v : Int32) (r : List Value) : vc xs zH_93 (n + 1) b d 93 6 ml (.int v :: .int u :: r) t Q = (if u < v then vc xs zH_93 n true d 93 9 ml r t Q else vc xs zH_93 n true d 93 13 ml r t Q) := by
  rw [vc_q (o := (20, 0, 13, 3, [])) (by decide +kernel)]; rfl
theorem v_93_9 (xs : Option (List Int32)) (n : Nat) (b : Bool) (d : Nat) (ml : List Value) (t : T) (Q : Option Value → T → Prop) (st : List Value) : vc xs zH_93 (n + 1) b d 93 9 ml st t Q = vc xs zH_93 n true d 93 10 ml (.int 1 :: st) t Q := by
  rw [vc_q (o := (0, 1, 0, 0, [])) (by decide +kernel)]; rfl
theorem v_93_10 (xs : Option (List Int32)) (n : Nat) (b : Bool) (d : Nat) (ml : List Value) (t : T) (Q : Option Value → T → Prop) (st : List Value) : vc xs zH_93 (n + 1) b d 93 10 ml st t Q = vc xs zH_93 n true d 93 14 ml st t Q := by
  rw [vc_q (o := (22, 0, 14, 0, [])) (by decide +kernel)]; rfl
theorem v_93_13 (xs : Option (List Int32)) (n : Nat) (b : Bool) (d : Nat) (ml : List Value) (t : T) (Q : Option Value → T → Prop) (st : List Value) : vc xs zH_93 (n + 1) b d 93 13 ml st t Q = vc xs zH_93 n true d 93 14 ml (.int 0 :: st) t Q := by
  rw [vc_q (o := (0, 0, 0, 0, [])) (by decide +kernel)]; rfl
theorem v_93_14 (xs : Option (List Int32)) (n : Nat) (b : Bool) (d : Nat) (ml : List Value) (t : T) (Q : Option Value → T → Prop) (v : Int32) : vc xs zH_93 (n + 1) b d 93 14 ml [.int v] t Q = ((v = 0 ∨ v = 1) ∧ Q (some (.int v)) t) := by
  rw [vc_q (o := (41, 0, 0, 0, [])) (by decide +kernel)]; rfl
def zH_94 : List Nat := [3]
theorem v_94_0 (xs : Option (List Int32)) (n : Nat) (b : Bool) (d : Nat) (ml : List Value) (t : T) (Q : Option Value → T → Prop) (st : List Value) : vc xs zH_94 (n + 1) b d 94 0 ml st t Q = vc xs zH_94 n true d 94 1 ml (.int 0 :: st) t Q := by
  rw [vc_q (o := (0, 0, 0, 0, [])) (by decide +kernel)]; rfl
theorem v_94_1 (xs : Option (List Int32)) (n : Nat) (b : Bool) (d : Nat) (ml : List Value) (t : T) (Q : Option Value → T → Prop) (v : Int32) (r : List Value) : vc xs zH_94 (n + 1) b d 94 1 ml (.int v :: r) t Q = vset ml 4 (.int v) (fun l => vc xs zH_94 n true d 94 3 l r t Q) := by
  rw [vc_q (o := (3, 0, 4, 1, [])) (by decide +kernel)]; rfl
theorem v_94_3 (xs : Option (List Int32)) (n : Nat) (d : Nat) (ml : List Value) (t : T) (Q : Option Value → T → Prop) (st : List Value) : vc xs zH_94 (n + 1) false d 94 3 ml st t Q = vgi ml 4 (fun v => vc xs zH_94 n true d 94 5 ml (.int v :: st) t Q) := by
  rw [vc_q (o := (1, 0, 4, 1, [])) (by decide +kernel)]; rfl
theorem h_94_3 (xs : Option (List Int32)) (n d : Nat) (ml st : List Value) (t : T) (Q : Option Value → T → Prop) : vc xs zH_94 (n + 1) true d 94 3 ml st t Q = twp xs d 94 3 ml st t Q := id rfl
theorem v_94_5 (xs : Option (List Int32)) (n : Nat) (b : Bool) (d : Nat) (ml : List Value) (t : T) (Q : Option Value → T → Prop) (st : List Value) : vc xs zH_94 (n + 1) b d 94 5 ml st t Q = vgi ml 2 (fun v => vc xs zH_94 n true d 94 6 ml (.int v :: st) t Q) := by
  rw [vc_q (o := (1, 0, 2, 0, [])) (by decide +kernel)]; rfl
theorem v_94_6 (xs : Option (List Int32)) (n : Nat) (b : Bool) (d : Nat) (ml : List Value) (t : T) (Q : Option Value → T → Prop) (u v : Int32) (r : List Value) : vc xs zH_94 (n + 1) b d 94 6 ml (.int v :: .int u :: r) t Q = (if u < v then vc xs zH_94 n true d 94 9 ml r t Q else vc xs zH_94 n true d 94 27 ml r t Q) := by
  rw [vc_q (o := (20, 0, 27, 3, [])) (by decide +kernel)]; rfl
theorem v_94_9 (xs : Option (List Int32)) (n : Nat) (b : Bool) (d : Nat) (ml : List Value) (t : T) (Q : Option Value → T → Prop) (st : List Value) : vc xs zH_94 (n + 1) b d 94 9 ml st t Q = vga ml 0 (fun v => vc xs zH_94 n true d 94 10 ml (.ref v :: st) t Q) := by
  rw [vc_q (o := (2, 0, 0, 0, [])) (by decide +kernel)]; rfl
theorem v_94_10 (xs : Option (List Int32)) (n : Nat) (b : Bool) (d : Nat) (ml : List Value) (t : T) (Q : Option Value → T → Prop) (st : List Value) : vc xs zH_94 (n + 1) b d 94 10 ml st t Q = vgi ml 1 (fun v => vc xs zH_94 n true d 94 11 ml (.int v :: st) t Q) := by
  rw [vc_q (o := (1, 0, 1, 0, [])) (by decide +kernel)]; rfl
theorem v_94_11 (xs : Option (List Int32)) (n : Nat) (b : Bool) (d : Nat) (ml : List Value) (t : T) (Q : Option Value → T → Prop) (st : List Value) : vc xs zH_94 (n + 1) b d 94 11 ml st t Q = vgi ml 4 (fun v => vc xs zH_94 n true d 94 13 ml (.int v :: st) t Q) := by
  rw [vc_q (o := (1, 0, 4, 1, [])) (by decide +kernel)]; rfl
theorem v_94_13 (xs : Option (List Int32)) (n : Nat) (b : Bool) (d : Nat) (ml : List Value) (t : T) (Q : Option Value → T → Prop) (u v : Int32) (r : List Value) : vc xs zH_94 (n + 1) b d 94 13 ml (.int v :: .int u :: r) t Q = vc xs zH_94 n true d 94 14 ml (.int (u + v) :: r) t Q := by
  rw [vc_q (o := (6, 0, 0, 0, [])) (by decide +kernel)]; rfl
theorem v_94_14 (xs : Option (List Int32)) (n : Nat) (b : Bool) (d : Nat) (ml : List Value) (t : T) (Q : Option Value → T → Prop) (st : List Value) : vc xs zH_94 (n + 1) b d 94 14 ml st t Q = vgi ml 3 (fun v => vc xs zH_94 n true d 94 15 ml (.int v :: st) t Q) := by
  rw [vc_q (o := (1, 0, 3, 0, [])) (by decide +kernel)]; rfl
theorem v_94_15 (xs : Option (List Int32)) (n : Nat) (b : Bool) (d : Nat) (ml : List Value) (t : T) (Q : Option Value → T → Prop) (st : List Value) : vc xs zH_94 (n + 1) b d 94 15 ml st t Q = (st.all zc1 = true ∧ vtk 3 st [] (fun as rest => rest.length ≤ 8 ∧ vrc as 12 (twc d 45 as t (fun r t' => vc xs zH_94 n true d 94 18 ml (r.toList ++ rest) t' Q)))) := by
  rw [vc_q (o := (36, 0, 45, 2, [(0, 12)])) (by decide +kernel)]; rfl
theorem v_94_18 (xs : Option (List Int32)) (n : Nat) (b : Bool) (d : Nat) (ml : List Value) (t : T) (Q : Option Value → T → Prop) (u : Int32) (r : List Value) : vc xs zH_94 (n + 1) b d 94 18 ml (.int u :: r) t Q = (if u = 0 then vc xs zH_94 n true d 94 27 ml r t Q else vc xs zH_94 n true d 94 21 ml r t Q) := by
  rw [vc_q (o := (21, 0, 27, 0, [])) (by decide +kernel)]; rfl
theorem v_94_21 (xs : Option (List Int32)) (n : Nat) (b : Bool) (d : Nat) (ml : List Value) (t : T) (Q : Option Value → T → Prop) (st : List Value) : vc xs zH_94 (n + 1) b d 94 21 ml st t Q = vgi ml 4 (fun v => vset ml 4 (.int (v + 1)) (fun l => vc xs zH_94 n true d 94 24 l st t Q)) := by
  rw [vc_q (o := (5, 1, 4, 0, [])) (by decide +kernel)]; rfl
theorem v_94_24 (xs : Option (List Int32)) (n : Nat) (b : Bool) (d : Nat) (ml : List Value) (t : T) (Q : Option Value → T → Prop) (st : List Value) : vc xs zH_94 (n + 1) b d 94 24 ml st t Q = vc xs zH_94 n true d 94 3 ml st t Q := by
  rw [vc_q (o := (22, 0, 3, 0, [])) (by decide +kernel)]; rfl
theorem v_94_27 (xs : Option (List Int32)) (n : Nat) (b : Bool) (d : Nat) (ml : List Value) (t : T) (Q : Option Value → T → Prop) (st : List Value) : vc xs zH_94 (n + 1) b d 94 27 ml st t Q = vgi ml 4 (fun v => vc xs zH_94 n true d 94 29 ml (.int v :: st) t Q) := by
  rw [vc_q (o := (1, 0, 4, 1, [])) (by decide +kernel)]; rfl
theorem v_94_29 (xs : Option (List Int32)) (n : Nat) (b : Bool) (d : Nat) (ml : List Value) (t : T) (Q : Option Value → T → Prop) (v : Int32) : vc xs zH_94 (n + 1) b d 94 29 ml [.int v] t Q = Q (some (.int v)) t := by
  rw [vc_q (o := (40, 0, 0, 0, [])) (by decide +kernel)]; rfl
def zH_95 : List Nat := [2, 21]
theorem v_95_0 (xs : Option (List Int32)) (n : Nat) (b : Bool) (d : Nat) (ml : List Value) (t : T) (Q : Option Value → T → Prop) (st : List Value) : vc xs zH_95 (n + 1) b d 95 0 ml st t Q = vc xs zH_95 n true d 95 1 ml (.int 0 :: st) t Q := by
  rw [vc_q (o := (0, 0, 0, 0, [])) (by decide +kernel)]; rfl
theorem v_95_1 (xs : Option (List Int32)) (n : Nat) (b : Bool) (d : Nat) (ml : List Value) (t : T) (Q : Option Value → T → Prop) (v : Int32) (r : List Value) : vc xs zH_95 (n + 1) b d 95 1 ml (.int v :: r) t Q = vset ml 1 (.int v) (fun l => vc xs zH_95 n true d 95 2 l r t Q) := by
  rw [vc_q (o := (3, 0, 1, 0, [])) (by decide +kernel)]; rfl
theorem v_95_2 (xs : Option (List Int32)) (n : Nat) (d : Nat) (ml : List Value) (t : T) (Q : Option Value → T → Prop) (st : List Value) : vc xs zH_95 (n + 1) false d 95 2 ml st t Q = vgi ml 1 (fun v => vc xs zH_95 n true d 95 3 ml (.int v :: st) t Q) := by
  rw [vc_q (o := (1, 0, 1, 0, [])) (by decide +kernel)]; rfl
theorem h_95_2 (xs : Option (List Int32)) (n d : Nat) (ml st : List Value) (t : T) (Q : Option Value → T → Prop) : vc xs zH_95 (n + 1) true d 95 2 ml st t Q = twp xs d 95 2 ml st t Q := id rfl
theorem v_95_3 (xs : Option (List Int32)) (n : Nat) (b : Bool) (d : Nat) (ml : List Value) (t : T) (Q : Option Value → T → Prop) (st : List Value) : vc xs zH_95 (n + 1) b d 95 3 ml st t Q = vc xs zH_95 n true d 95 4 ml (.int 4 :: st) t Q := by
  rw [vc_q (o := (0, 4, 0, 0, [])) (by decide +kernel)]; rfl
theorem v_95_4 (xs : Option (List Int32)) (n : Nat) (b : Bool) (d : Nat) (ml : List Value) (t : T) (Q : Option Value → T → Prop) (u v : Int32) (r : List Value) : vc xs zH_95 (n + 1) b d 95 4 ml (.int v :: .int u :: r) t Q = (if u < v then vc xs zH_95 n true d 95 7 ml r t Q else vc xs zH_95 n true d 95 64 ml r t Q) := by
  rw [vc_q (o := (20, 0, 64, 3, [])) (by decide +kernel)]; rfl
theorem v_95_7 (xs : Option (List Int32)) (n : Nat) (b : Bool) (d : Nat) (ml : List Value) (t : T) (Q : Option Value → T → Prop) (st : List Value) : vc xs zH_95 (n + 1) b d 95 7 ml st t Q = vga ml 0 (fun v => vc xs zH_95 n true d 95 8 ml (.ref v :: st) t Q) := by
  rw [vc_q (o := (2, 0, 0, 0, [])) (by decide +kernel)]; rfl
theorem v_95_8 (xs : Option (List Int32)) (n : Nat) (b : Bool) (d : Nat) (ml : List Value) (t : T) (Q : Option Value → T → Prop) (u : Nat) (r : List Value) : vc xs zH_95 (n + 1) b d 95 8 ml (.ref u :: r) t Q = (vtag u = 12 ∧ vc xs zH_95 n true d 95 11 ml (.ref (tref t u 23) :: r) t Q) := by
  rw [vc_q (o := (25, 0, 12, 23, [])) (by decide +kernel)]; rfl
theorem v_95_11 (xs : Option (List Int32)) (n : Nat) (b : Bool) (d : Nat) (ml : List Value) (t : T) (Q : Option Value → T → Prop) (st : List Value) : vc xs zH_95 (n + 1) b d 95 11 ml st t Q = vgi ml 1 (fun v => vc xs zH_95 n true d 95 12 ml (.int v :: st) t Q) := by
  rw [vc_q (o := (1, 0, 1, 0, [])) (by decide +kernel)]; rfl
theorem v_95_12 (xs : Option (List Int32)) (n : Nat) (b : Bool) (d : Nat) (ml : List Value) (t : T) (Q : Option Value → T → Prop) (st : List Value) : vc xs zH_95 (n + 1) b d 95 12 ml st t Q = vga ml 0 (fun v => vc xs zH_95 n true d 95 13 ml (.ref v :: st) t Q) := by
  rw [vc_q (o := (2, 0, 0, 0, [])) (by decide +kernel)]; rfl
theorem v_95_13 (xs : Option (List Int32)) (n : Nat) (b : Bool) (d : Nat) (ml : List Value) (t : T) (Q : Option Value → T → Prop) (u : Nat) (r : List Value) : vc xs zH_95 (n + 1) b d 95 13 ml (.ref u :: r) t Q = (vtag u = 12 ∧ vc xs zH_95 n true d 95 16 ml (.ref (tref t u 24) :: r) t Q) := by
  rw [vc_q (o := (25, 0, 12, 24, [])) (by decide +kernel)]; rfl
theorem v_95_16 (xs : Option (List Int32)) (n : Nat) (b : Bool) (d : Nat) (ml : List Value) (t : T) (Q : Option Value → T → Prop) (st : List Value) : vc xs zH_95 (n + 1) b d 95 16 ml st t Q = vgi ml 1 (fun v => vc xs zH_95 n true d 95 17 ml (.int v :: st) t Q) := by
  rw [vc_q (o := (1, 0, 1, 0, [])) (by decide +kernel)]; rfl
theorem v_95_17 (xs : Option (List Int32)) (n : Nat) (b : Bool) (d : Nat) (ml : List Value) (t : T) (Q : Option Value → T → Prop) (v : Int32) (u : Nat) (r : List Value) : vc xs zH_95 (n + 1) b d 95 17 ml (.int v :: .ref u :: r) t Q = (vtag u = 100 ∧ vinb v (vlen u) ∧ vc xs zH_95 n true d 95 18 ml (.int (t.1 u v.toNatClampNeg) :: r) t Q) := by
  rw [vc_q (o := (29, 0, 0, 0, [])) (by decide +kernel)]; rfl
theorem v_95_18 (xs : Option (List Int32)) (n : Nat) (b : Bool) (d : Nat) (ml : List Value) (t : T) (Q : Option Value → T → Prop) (w v : Int32) (u : Nat) (r : List Value) : vc xs zH_95 (n + 1) b d 95 18 ml (.int w :: .int v :: .ref u :: r) t Q = (vtag u = 100 ∧ vinb v (vlen u) ∧ vc xs zH_95 n true d 95 19 ml r (tsi t u v.toNatClampNeg w) Q) := by
  rw [vc_q (o := (32, 0, 0, 0, [])) (by decide +kernel)]; rfl
theorem v_95_19 (xs : Option (List Int32)) (n : Nat) (b : Bool) (d : Nat) (ml : List Value) (t : T) (Q : Option Value → T → Prop) (st : List Value) : vc xs zH_95 (n + 1) b d 95 19 ml st t Q = vc xs zH_95 n true d 95 20 ml (.int 0 :: st) t Q := by
  rw [vc_q (o := (0, 0, 0, 0, [])) (by decide +kernel)]; rfl
theorem v_95_20 (xs : Option (List Int32)) (n : Nat) (b : Bool) (d : Nat) (ml : List Value) (t : T) (Q : Option Value → T → Prop) (v : Int32) (r : List Value) : vc xs zH_95 (n + 1) b d 95 20 ml (.int v :: r) t Q = vset ml 2 (.int v) (fun l => vc xs zH_95 n true d 95 21 l r t Q) := by
  rw [vc_q (o := (3, 0, 2, 0, [])) (by decide +kernel)]; rfl
theorem v_95_21 (xs : Option (List Int32)) (n : Nat) (d : Nat) (ml : List Value) (t : T) (Q : Option Value → T → Prop) (st : List Value) : vc xs zH_95 (n + 1) false d 95 21 ml st t Q = vgi ml 2 (fun v => vc xs zH_95 n true d 95 22 ml (.int v :: st) t Q) := by
  rw [vc_q (o := (1, 0, 2, 0, [])) (by decide +kernel)]; rfl
theorem h_95_21 (xs : Option (List Int32)) (n d : Nat) (ml st : List Value) (t : T) (Q : Option Value → T → Prop) : vc xs zH_95 (n + 1) true d 95 21 ml st t Q = twp xs d 95 21 ml st t Q := id rfl
theorem v_95_22 (xs : Option (List Int32)) (n : Nat) (b : Bool) (d : Nat) (ml : List Value) (t : T) (Q : Option Value → T → Prop) (st : List Value) : vc xs zH_95 (n + 1) b d 95 22 ml st t Q = vga ml 0 (fun v => vc xs zH_95 n true d 95 23 ml (.ref v :: st) t Q) := by
  rw [vc_q (o := (2, 0, 0, 0, [])) (by decide +kernel)]; rfl
theorem v_95_23 (xs : Option (List Int32)) (n : Nat) (b : Bool) (d : Nat) (ml : List Value) (t : T) (Q : Option Value → T → Prop) (u : Nat) (r : List Value) : vc xs zH_95 (n + 1) b d 95 23 ml (.ref u :: r) t Q = (vtag u = 12 ∧ vc xs zH_95 n true d 95 26 ml (.ref (tref t u 24) :: r) t Q) := by
  rw [vc_q (o := (25, 0, 12, 24, [])) (by decide +kernel)]; rfl
theorem v_95_26 (xs : Option (List Int32)) (n : Nat) (b : Bool) (d : Nat) (ml : List Value) (t : T) (Q : Option Value → T → Prop) (st : List Value) : vc xs zH_95 (n + 1) b d 95 26 ml st t Q = vgi ml 1 (fun v => vc xs zH_95 n true d 95 27 ml (.int v :: st) t Q) := by
  rw [vc_q (o := (1, 0, 1, 0, [])) (by decide +kernel)]; rfl
theorem v_95_27 (xs : Option (List Int32)) (n : Nat) (b : Bool) (d : Nat) (ml : List Value) (t : T) (Q : Option Value → T → Prop) (v : Int32) (u : Nat) (r : List Value) : vc xs zH_95 (n + 1) b d 95 27 ml (.int v :: .ref u :: r) t Q = (vtag u = 100 ∧ vinb v (vlen u) ∧ vc xs zH_95 n true d 95 28 ml (.int (t.1 u v.toNatClampNeg) :: r) t Q) := by
  rw [vc_q (o := (29, 0, 0, 0, [])) (by decide +kernel)]; rfl
theorem v_95_28 (xs : Option (List Int32)) (n : Nat) (b : Bool) (d : Nat) (ml : List Value) (t : T) (Q : Option Value → T → Prop) (u v : Int32) (r : List Value) : vc xs zH_95 (n + 1) b d 95 28 ml (.int v :: .int u :: r) t Q = (if u < v then vc xs zH_95 n true d 95 31 ml r t Q else vc xs zH_95 n true d 95 58 ml r t Q) := by
  rw [vc_q (o := (20, 0, 58, 3, [])) (by decide +kernel)]; rfl
theorem v_95_31 (xs : Option (List Int32)) (n : Nat) (b : Bool) (d : Nat) (ml : List Value) (t : T) (Q : Option Value → T → Prop) (st : List Value) : vc xs zH_95 (n + 1) b d 95 31 ml st t Q = vga ml 0 (fun v => vc xs zH_95 n true d 95 32 ml (.ref v :: st) t Q) := by
  rw [vc_q (o := (2, 0, 0, 0, [])) (by decide +kernel)]; rfl
theorem v_95_32 (xs : Option (List Int32)) (n : Nat) (b : Bool) (d : Nat) (ml : List Value) (t : T) (Q : Option Value → T → Prop) (st : List Value) : vc xs zH_95 (n + 1) b d 95 32 ml st t Q = vc xs zH_95 n true d 95 34 ml (.int 52 :: st) t Q := by
  rw [vc_q (o := (0, 52, 1, 0, [])) (by decide +kernel)]; rfl
theorem v_95_34 (xs : Option (List Int32)) (n : Nat) (b : Bool) (d : Nat) (ml : List Value) (t : T) (Q : Option Value → T → Prop) (st : List Value) : vc xs zH_95 (n + 1) b d 95 34 ml st t Q = vc xs zH_95 n true d 95 36 ml (.int 12 :: st) t Q := by
  rw [vc_q (o := (0, 12, 1, 0, [])) (by decide +kernel)]; rfl
theorem v_95_36 (xs : Option (List Int32)) (n : Nat) (b : Bool) (d : Nat) (ml : List Value) (t : T) (Q : Option Value → T → Prop) (st : List Value) : vc xs zH_95 (n + 1) b d 95 36 ml st t Q = vgi ml 1 (fun v => vc xs zH_95 n true d 95 37 ml (.int v :: st) t Q) := by
  rw [vc_q (o := (1, 0, 1, 0, [])) (by decide +kernel)]; rfl
theorem v_95_37 (xs : Option (List Int32)) (n : Nat) (b : Bool) (d : Nat) (ml : List Value) (t : T) (Q : Option Value → T → Prop) (u v : Int32) (r : List Value) : vc xs zH_95 (n + 1) b d 95 37 ml (.int v :: .int u :: r) t Q = vc xs zH_95 n true d 95 38 ml (.int (u * v) :: r) t Q := by
  rw [vc_q (o := (8, 0, 0, 0, [])) (by decide +kernel)]; rfl
theorem v_95_38 (xs : Option (List Int32)) (n : Nat) (b : Bool) (d : Nat) (ml : List Value) (t : T) (Q : Option Value → T → Prop) (u v : Int32) (r : List Value) : vc xs zH_95 (n + 1) b d 95 38 ml (.int v :: .int u :: r) t Q = vc xs zH_95 n true d 95 39 ml (.int (u + v) :: r) t Q := by
  rw [vc_q (o := (6, 0, 0, 0, [])) (by decide +kernel)]; rfl
theorem v_95_39 (xs : Option (List Int32)) (n : Nat) (b : Bool) (d : Nat) (ml : List Value) (t : T) (Q : Option Value → T → Prop) (st : List Value) : vc xs zH_95 (n + 1) b d 95 39 ml st t Q = vgi ml 2 (fun v => vc xs zH_95 n true d 95 40 ml (.int v :: st) t Q) := by
  rw [vc_q (o := (1, 0, 2, 0, [])) (by decide +kernel)]; rfl
theorem v_95_40 (xs : Option (List Int32)) (n : Nat) (b : Bool) (d : Nat) (ml : List Value) (t : T) (Q : Option Value → T → Prop) (u v : Int32) (r : List Value) : vc xs zH_95 (n + 1) b d 95 40 ml (.int v :: .int u :: r) t Q = vc xs zH_95 n true d 95 41 ml (.int (u + v) :: r) t Q := by
  rw [vc_q (o := (6, 0, 0, 0, [])) (by decide +kernel)]; rfl
theorem v_95_41 (xs : Option (List Int32)) (n : Nat) (b : Bool) (d : Nat) (ml : List Value) (t : T) (Q : Option Value → T → Prop) (st : List Value) : vc xs zH_95 (n + 1) b d 95 41 ml st t Q = vc xs zH_95 n true d 95 42 ml (.int 4 :: st) t Q := by
  rw [vc_q (o := (0, 4, 0, 0, [])) (by decide +kernel)]; rfl
theorem v_95_42 (xs : Option (List Int32)) (n : Nat) (b : Bool) (d : Nat) (ml : List Value) (t : T) (Q : Option Value → T → Prop) (st : List Value) : vc xs zH_95 (n + 1) b d 95 42 ml st t Q = vc xs zH_95 n true d 95 44 ml (.int 12 :: st) t Q := by
  rw [vc_q (o := (0, 12, 1, 0, [])) (by decide +kernel)]; rfl
theorem v_95_44 (xs : Option (List Int32)) (n : Nat) (b : Bool) (d : Nat) (ml : List Value) (t : T) (Q : Option Value → T → Prop) (st : List Value) : vc xs zH_95 (n + 1) b d 95 44 ml st t Q = vgi ml 1 (fun v => vc xs zH_95 n true d 95 45 ml (.int v :: st) t Q) := by
  rw [vc_q (o := (1, 0, 1, 0, [])) (by decide +kernel)]; rfl
theorem v_95_45 (xs : Option (List Int32)) (n : Nat) (b : Bool) (d : Nat) (ml : List Value) (t : T) (Q : Option Value → T → Prop) (u v : Int32) (r : List Value) : vc xs zH_95 (n + 1) b d 95 45 ml (.int v :: .int u :: r) t Q = vc xs zH_95 n true d 95 46 ml (.int (u * v) :: r) t Q := by
  rw [vc_q (o := (8, 0, 0, 0, [])) (by decide +kernel)]; rfl
theorem v_95_46 (xs : Option (List Int32)) (n : Nat) (b : Bool) (d : Nat) (ml : List Value) (t : T) (Q : Option Value → T → Prop) (u v : Int32) (r : List Value) : vc xs zH_95 (n + 1) b d 95 46 ml (.int v :: .int u :: r) t Q = vc xs zH_95 n true d 95 47 ml (.int (u + v) :: r) t Q := by
  rw [vc_q (o := (6, 0, 0, 0, [])) (by decide +kernel)]; rfl
theorem v_95_47 (xs : Option (List Int32)) (n : Nat) (b : Bool) (d : Nat) (ml : List Value) (t : T) (Q : Option Value → T → Prop) (st : List Value) : vc xs zH_95 (n + 1) b d 95 47 ml st t Q = vgi ml 2 (fun v => vc xs zH_95 n true d 95 48 ml (.int v :: st) t Q) := by
  rw [vc_q (o := (1, 0, 2, 0, [])) (by decide +kernel)]; rfl
theorem v_95_48 (xs : Option (List Int32)) (n : Nat) (b : Bool) (d : Nat) (ml : List Value) (t : T) (Q : Option Value → T → Prop) (u v : Int32) (r : List Value) : vc xs zH_95 (n + 1) b d 95 48 ml (.int v :: .int u :: r) t Q = vc xs zH_95 n true d 95 49 ml (.int (u + v) :: r) t Q := by
  rw [vc_q (o := (6, 0, 0, 0, [])) (by decide +kernel)]; rfl
theorem v_95_49 (xs : Option (List Int32)) (n : Nat) (b : Bool) (d : Nat) (ml : List Value) (t : T) (Q : Option Value → T → Prop) (st : List Value) : vc xs zH_95 (n + 1) b d 95 49 ml st t Q = (st.all zc1 = true ∧ vtk 3 st [] (fun as rest => rest.length ≤ 8 ∧ vrc as 12 (twc d 44 as t (fun r t' => vc xs zH_95 n true d 95 52 ml (r.toList ++ rest) t' Q)))) := by
  rw [vc_q (o := (36, 0, 44, 2, [(0, 12)])) (by decide +kernel)]; rfl
theorem v_95_52 (xs : Option (List Int32)) (n : Nat) (b : Bool) (d : Nat) (ml : List Value) (t : T) (Q : Option Value → T → Prop) (st : List Value) : vc xs zH_95 (n + 1) b d 95 52 ml st t Q = vgi ml 2 (fun v => vset ml 2 (.int (v + 1)) (fun l => vc xs zH_95 n true d 95 55 l st t Q)) := by
  rw [vc_q (o := (5, 1, 2, 0, [])) (by decide +kernel)]; rfl
theorem v_95_55 (xs : Option (List Int32)) (n : Nat) (b : Bool) (d : Nat) (ml : List Value) (t : T) (Q : Option Value → T → Prop) (st : List Value) : vc xs zH_95 (n + 1) b d 95 55 ml st t Q = vc xs zH_95 n true d 95 21 ml st t Q := by
  rw [vc_q (o := (22, 0, 21, 0, [])) (by decide +kernel)]; rfl
theorem v_95_58 (xs : Option (List Int32)) (n : Nat) (b : Bool) (d : Nat) (ml : List Value) (t : T) (Q : Option Value → T → Prop) (st : List Value) : vc xs zH_95 (n + 1) b d 95 58 ml st t Q = vgi ml 1 (fun v => vset ml 1 (.int (v + 1)) (fun l => vc xs zH_95 n true d 95 61 l st t Q)) := by
  rw [vc_q (o := (5, 1, 1, 0, [])) (by decide +kernel)]; rfl
theorem v_95_61 (xs : Option (List Int32)) (n : Nat) (b : Bool) (d : Nat) (ml : List Value) (t : T) (Q : Option Value → T → Prop) (st : List Value) : vc xs zH_95 (n + 1) b d 95 61 ml st t Q = vc xs zH_95 n true d 95 2 ml st t Q := by
  rw [vc_q (o := (22, 0, 2, 0, [])) (by decide +kernel)]; rfl
theorem v_95_64 (xs : Option (List Int32)) (n : Nat) (b : Bool) (d : Nat) (ml : List Value) (t : T) (Q : Option Value → T → Prop)  : vc xs zH_95 (n + 1) b d 95 64 ml [] t Q = Q none t := by
  rw [vc_q (o := (43, 0, 0, 0, [])) (by decide +kernel)]; rfl
def zH_96 : List Nat := [4]
theorem v_96_0 (xs : Option (List Int32)) (n : Nat) (b : Bool) (d : Nat) (ml : List Value) (t : T) (Q : Option Value → T → Prop) (st : List Value) : vc xs zH_96 (n + 1) b d 96 0 ml st t Q = vc xs zH_96 n true d 96 1 ml (.int 0 :: st) t Q := by
  rw [vc_q (o := (0, 0, 0, 0, [])) (by decide +kernel)]; rfl
theorem v_96_1 (xs : Option (List Int32)) (n : Nat) (b : Bool) (d : Nat) (ml : List Value) (t : T) (Q : Option Value → T → Prop) (v : Int32) (r : List Value) : vc xs zH_96 (n + 1) b d 96 1 ml (.int v :: r) t Q = vset ml 1 (.int v) (fun l => vc xs zH_96 n true d 96 2 l r t Q) := by
  rw [vc_q (o := (3, 0, 1, 0, [])) (by decide +kernel)]; rfl
theorem v_96_2 (xs : Option (List Int32)) (n : Nat) (b : Bool) (d : Nat) (ml : List Value) (t : T) (Q : Option Value → T → Prop) (st : List Value) : vc xs zH_96 (n + 1) b d 96 2 ml st t Q = vc xs zH_96 n true d 96 3 ml (.int 0 :: st) t Q := by
  rw [vc_q (o := (0, 0, 0, 0, [])) (by decide +kernel)]; rfl
theorem v_96_3 (xs : Option (List Int32)) (n : Nat) (b : Bool) (d : Nat) (ml : List Value) (t : T) (Q : Option Value → T → Prop) (v : Int32) (r : List Value) : vc xs zH_96 (n + 1) b d 96 3 ml (.int v :: r) t Q = vset ml 2 (.int v) (fun l => vc xs zH_96 n true d 96 4 l r t Q) := by
  rw [vc_q (o := (3, 0, 2, 0, [])) (by decide +kernel)]; rfl
theorem v_96_4 (xs : Option (List Int32)) (n : Nat) (d : Nat) (ml : List Value) (t : T) (Q : Option Value → T → Prop) (st : List Value) : vc xs zH_96 (n + 1) false d 96 4 ml st t Q = vgi ml 2 (fun v => vc xs zH_96 n true d 96 5 ml (.int v :: st) t Q) := by
  rw [vc_q (o := (1, 0, 2, 0, [])) (by decide +kernel)]; rfl
theorem h_96_4 (xs : Option (List Int32)) (n d : Nat) (ml st : List Value) (t : T) (Q : Option Value → T → Prop) : vc xs zH_96 (n + 1) true d 96 4 ml st t Q = twp xs d 96 4 ml st t Q := id rfl
theorem v_96_5 (xs : Option (List Int32)) (n : Nat) (b : Bool) (d : Nat) (ml : List Value) (t : T) (Q : Option Value → T → Prop) (st : List Value) : vc xs zH_96 (n + 1) b d 96 5 ml st t Q = vc xs zH_96 n true d 96 6 ml (.int 4 :: st) t Q := by
  rw [vc_q (o := (0, 4, 0, 0, [])) (by decide +kernel)]; rfl
theorem v_96_6 (xs : Option (List Int32)) (n : Nat) (b : Bool) (d : Nat) (ml : List Value) (t : T) (Q : Option Value → T → Prop) (u v : Int32) (r : List Value) : vc xs zH_96 (n + 1) b d 96 6 ml (.int v :: .int u :: r) t Q = (if u < v then vc xs zH_96 n true d 96 9 ml r t Q else vc xs zH_96 n true d 96 40 ml r t Q) := by
  rw [vc_q (o := (20, 0, 40, 3, [])) (by decide +kernel)]; rfl
theorem v_96_9 (xs : Option (List Int32)) (n : Nat) (b : Bool) (d : Nat) (ml : List Value) (t : T) (Q : Option Value → T → Prop) (st : List Value) : vc xs zH_96 (n + 1) b d 96 9 ml st t Q = vga ml 0 (fun v => vc xs zH_96 n true d 96 10 ml (.ref v :: st) t Q) := by
  rw [vc_q (o := (2, 0, 0, 0, [])) (by decide +kernel)]; rfl
theorem v_96_10 (xs : Option (List Int32)) (n : Nat) (b : Bool) (d : Nat) (ml : List Value) (t : T) (Q : Option Value → T → Prop) (st : List Value) : vc xs zH_96 (n + 1) b d 96 10 ml st t Q = vc xs zH_96 n true d 96 11 ml (.int 4 :: st) t Q := by
  rw [vc_q (o := (0, 4, 0, 0, [])) (by decide +kernel)]; rfl
theorem v_96_11 (xs : Option (List Int32)) (n : Nat) (b : Bool) (d : Nat) (ml : List Value) (t : T) (Q : Option Value → T → Prop) (st : List Value) : vc xs zH_96 (n + 1) b d 96 11 ml st t Q = vc xs zH_96 n true d 96 13 ml (.int 12 :: st) t Q := by
  rw [vc_q (o := (0, 12, 1, 0, [])) (by decide +kernel)]; rfl
theorem v_96_13 (xs : Option (List Int32)) (n : Nat) (b : Bool) (d : Nat) (ml : List Value) (t : T) (Q : Option Value → T → Prop) (st : List Value) : vc xs zH_96 (n + 1) b d 96 13 ml st t Q = vgi ml 2 (fun v => vc xs zH_96 n true d 96 14 ml (.int v :: st) t Q) := by
  rw [vc_q (o := (1, 0, 2, 0, [])) (by decide +kernel)]; rfl
theorem v_96_14 (xs : Option (List Int32)) (n : Nat) (b : Bool) (d : Nat) (ml : List Value) (t : T) (Q : Option Value → T → Prop) (u v : Int32) (r : List Value) : vc xs zH_96 (n + 1) b d 96 14 ml (.int v :: .int u :: r) t Q = vc xs zH_96 n true d 96 15 ml (.int (u * v) :: r) t Q := by
  rw [vc_q (o := (8, 0, 0, 0, [])) (by decide +kernel)]; rfl
theorem v_96_15 (xs : Option (List Int32)) (n : Nat) (b : Bool) (d : Nat) (ml : List Value) (t : T) (Q : Option Value → T → Prop) (u v : Int32) (r : List Value) : vc xs zH_96 (n + 1) b d 96 15 ml (.int v :: .int u :: r) t Q = vc xs zH_96 n true d 96 16 ml (.int (u + v) :: r) t Q := by
  rw [vc_q (o := (6, 0, 0, 0, [])) (by decide +kernel)]; rfl
theorem v_96_16 (xs : Option (List Int32)) (n : Nat) (b : Bool) (d : Nat) (ml : List Value) (t : T) (Q : Option Value → T → Prop) (st : List Value) : vc xs zH_96 (n + 1) b d 96 16 ml st t Q = vga ml 0 (fun v => vc xs zH_96 n true d 96 17 ml (.ref v :: st) t Q) := by
  rw [vc_q (o := (2, 0, 0, 0, [])) (by decide +kernel)]; rfl
theorem v_96_17 (xs : Option (List Int32)) (n : Nat) (b : Bool) (d : Nat) (ml : List Value) (t : T) (Q : Option Value → T → Prop) (u : Nat) (r : List Value) : vc xs zH_96 (n + 1) b d 96 17 ml (.ref u :: r) t Q = (vtag u = 12 ∧ vc xs zH_96 n true d 96 20 ml (.ref (tref t u 23) :: r) t Q) := by
  rw [vc_q (o := (25, 0, 12, 23, [])) (by decide +kernel)]; rfl
theorem v_96_20 (xs : Option (List Int32)) (n : Nat) (b : Bool) (d : Nat) (ml : List Value) (t : T) (Q : Option Value → T → Prop) (st : List Value) : vc xs zH_96 (n + 1) b d 96 20 ml st t Q = vgi ml 2 (fun v => vc xs zH_96 n true d 96 21 ml (.int v :: st) t Q) := by
  rw [vc_q (o := (1, 0, 2, 0, [])) (by decide +kernel)]; rfl
theorem v_96_21 (xs : Option (List Int32)) (n : Nat) (b : Bool) (d : Nat) (ml : List Value) (t : T) (Q : Option Value → T → Prop) (v : Int32) (u : Nat) (r : List Value) : vc xs zH_96 (n + 1) b d 96 21 ml (.int v :: .ref u :: r) t Q = (vtag u = 100 ∧ vinb v (vlen u) ∧ vc xs zH_96 n true d 96 22 ml (.int (t.1 u v.toNatClampNeg) :: r) t Q) := by
  rw [vc_q (o := (29, 0, 0, 0, [])) (by decide +kernel)]; rfl
theorem v_96_22 (xs : Option (List Int32)) (n : Nat) (b : Bool) (d : Nat) (ml : List Value) (t : T) (Q : Option Value → T → Prop) (st : List Value) : vc xs zH_96 (n + 1) b d 96 22 ml st t Q = (st.all zc1 = true ∧ vtk 3 st [] (fun as rest => rest.length ≤ 8 ∧ vrc as 12 (twc d 46 as t (fun r t' => vc xs zH_96 n true d 96 25 ml (r.toList ++ rest) t' Q)))) := by
  rw [vc_q (o := (36, 0, 46, 2, [(0, 12)])) (by decide +kernel)]; rfl
theorem v_96_25 (xs : Option (List Int32)) (n : Nat) (b : Bool) (d : Nat) (ml : List Value) (t : T) (Q : Option Value → T → Prop) (st : List Value) : vc xs zH_96 (n + 1) b d 96 25 ml st t Q = vgi ml 1 (fun v => vc xs zH_96 n true d 96 26 ml (.int v :: st) t Q) := by
  rw [vc_q (o := (1, 0, 1, 0, [])) (by decide +kernel)]; rfl
theorem v_96_26 (xs : Option (List Int32)) (n : Nat) (b : Bool) (d : Nat) (ml : List Value) (t : T) (Q : Option Value → T → Prop) (st : List Value) : vc xs zH_96 (n + 1) b d 96 26 ml st t Q = vga ml 0 (fun v => vc xs zH_96 n true d 96 27 ml (.ref v :: st) t Q) := by
  rw [vc_q (o := (2, 0, 0, 0, [])) (by decide +kernel)]; rfl
theorem v_96_27 (xs : Option (List Int32)) (n : Nat) (b : Bool) (d : Nat) (ml : List Value) (t : T) (Q : Option Value → T → Prop) (u : Nat) (r : List Value) : vc xs zH_96 (n + 1) b d 96 27 ml (.ref u :: r) t Q = (vtag u = 12 ∧ vc xs zH_96 n true d 96 30 ml (.ref (tref t u 23) :: r) t Q) := by
  rw [vc_q (o := (25, 0, 12, 23, [])) (by decide +kernel)]; rfl
theorem v_96_30 (xs : Option (List Int32)) (n : Nat) (b : Bool) (d : Nat) (ml : List Value) (t : T) (Q : Option Value → T → Prop) (st : List Value) : vc xs zH_96 (n + 1) b d 96 30 ml st t Q = vgi ml 2 (fun v => vc xs zH_96 n true d 96 31 ml (.int v :: st) t Q) := by
  rw [vc_q (o := (1, 0, 2, 0, [])) (by decide +kernel)]; rfl
theorem v_96_31 (xs : Option (List Int32)) (n : Nat) (b : Bool) (d : Nat) (ml : List Value) (t : T) (Q : Option Value → T → Prop) (v : Int32) (u : Nat) (r : List Value) : vc xs zH_96 (n + 1) b d 96 31 ml (.int v :: .ref u :: r) t Q = (vtag u = 100 ∧ vinb v (vlen u) ∧ vc xs zH_96 n true d 96 32 ml (.int (t.1 u v.toNatClampNeg) :: r) t Q) := by
  rw [vc_q (o := (29, 0, 0, 0, [])) (by decide +kernel)]; rfl
theorem v_96_32 (xs : Option (List Int32)) (n : Nat) (b : Bool) (d : Nat) (ml : List Value) (t : T) (Q : Option Value → T → Prop) (u v : Int32) (r : List Value) : vc xs zH_96 (n + 1) b d 96 32 ml (.int v :: .int u :: r) t Q = vc xs zH_96 n true d 96 33 ml (.int (u + v) :: r) t Q := by
  rw [vc_q (o := (6, 0, 0, 0, [])) (by decide +kernel)]; rfl
theorem v_96_33 (xs : Option (List Int32)) (n : Nat) (b : Bool) (d : Nat) (ml : List Value) (t : T) (Q : Option Value → T → Prop) (v : Int32) (r : List Value) : vc xs zH_96 (n + 1) b d 96 33 ml (.int v :: r) t Q = vset ml 1 (.int v) (fun l => vc xs zH_96 n true d 96 34 l r t Q) := by
  rw [vc_q (o := (3, 0, 1, 0, [])) (by decide +kernel)]; rfl
theorem v_96_34 (xs : Option (List Int32)) (n : Nat) (b : Bool) (d : Nat) (ml : List Value) (t : T) (Q : Option Value → T → Prop) (st : List Value) : vc xs zH_96 (n + 1) b d 96 34 ml st t Q = vgi ml 2 (fun v => vset ml 2 (.int (v + 1)) (fun l => vc xs zH_96 n true d 96 37 l st t Q)) := by
  rw [vc_q (o := (5, 1, 2, 0, [])) (by decide +kernel)]; rfl
theorem v_96_37 (xs : Option (List Int32)) (n : Nat) (b : Bool) (d : Nat) (ml : List Value) (t : T) (Q : Option Value → T → Prop) (st : List Value) : vc xs zH_96 (n + 1) b d 96 37 ml st t Q = vc xs zH_96 n true d 96 4 ml st t Q := by
  rw [vc_q (o := (22, 0, 4, 0, [])) (by decide +kernel)]; rfl
theorem v_96_40 (xs : Option (List Int32)) (n : Nat) (b : Bool) (d : Nat) (ml : List Value) (t : T) (Q : Option Value → T → Prop) (st : List Value) : vc xs zH_96 (n + 1) b d 96 40 ml st t Q = vgi ml 1 (fun v => vc xs zH_96 n true d 96 41 ml (.int v :: st) t Q) := by
  rw [vc_q (o := (1, 0, 1, 0, [])) (by decide +kernel)]; rfl
theorem v_96_41 (xs : Option (List Int32)) (n : Nat) (b : Bool) (d : Nat) (ml : List Value) (t : T) (Q : Option Value → T → Prop) (v : Int32) : vc xs zH_96 (n + 1) b d 96 41 ml [.int v] t Q = Q (some (.int v)) t := by
  rw [vc_q (o := (40, 0, 0, 0, [])) (by decide +kernel)]; rfl
def zH_97 : List Nat := []
theorem v_97_0 (xs : Option (List Int32)) (n : Nat) (b : Bool) (d : Nat) (ml : List Value) (t : T) (Q : Option Value → T → Prop) (st : List Value) : vc xs zH_97 (n + 1) b d 97 0 ml st t Q = vgi ml 1 (fun v => vc xs zH_97 n true d 97 1 ml (.int v :: st) t Q) := by
  rw [vc_q (o := (1, 0, 1, 0, [])) (by decide +kernel)]; rfl
theorem v_97_1 (xs : Option (List Int32)) (n : Nat) (b : Bool) (d : Nat) (ml : List Value) (t : T) (Q : Option Value → T → Prop) (st : List Value) : vc xs zH_97 (n + 1) b d 97 1 ml st t Q = (st.all zc1 = true ∧ vtk 1 st [] (fun as rest => rest.length ≤ 8 ∧ twc d 93 as t (fun r t' => vc xs zH_97 n true d 97 4 ml (r.toList ++ rest) t' Q))) := by
  rw [vc_q (o := (37, 0, 93, 1, [])) (by decide +kernel)]; rfl
theorem v_97_4 (xs : Option (List Int32)) (n : Nat) (b : Bool) (d : Nat) (ml : List Value) (t : T) (Q : Option Value → T → Prop) (u : Int32) (r : List Value) : vc xs zH_97 (n + 1) b d 97 4 ml (.int u :: r) t Q = (if u = 0 then vc xs zH_97 n true d 97 14 ml r t Q else vc xs zH_97 n true d 97 7 ml r t Q) := by
  rw [vc_q (o := (21, 0, 14, 0, [])) (by decide +kernel)]; rfl
theorem v_97_7 (xs : Option (List Int32)) (n : Nat) (b : Bool) (d : Nat) (ml : List Value) (t : T) (Q : Option Value → T → Prop) (st : List Value) : vc xs zH_97 (n + 1) b d 97 7 ml st t Q = vgi ml 2 (fun v => vc xs zH_97 n true d 97 8 ml (.int v :: st) t Q) := by
  rw [vc_q (o := (1, 0, 2, 0, [])) (by decide +kernel)]; rfl
theorem v_97_8 (xs : Option (List Int32)) (n : Nat) (b : Bool) (d : Nat) (ml : List Value) (t : T) (Q : Option Value → T → Prop) (st : List Value) : vc xs zH_97 (n + 1) b d 97 8 ml st t Q = (st.all zc1 = true ∧ vtk 1 st [] (fun as rest => rest.length ≤ 8 ∧ twc d 47 as t (fun r t' => vc xs zH_97 n true d 97 11 ml (r.toList ++ rest) t' Q))) := by
  rw [vc_q (o := (37, 0, 47, 1, [])) (by decide +kernel)]; rfl
theorem v_97_11 (xs : Option (List Int32)) (n : Nat) (b : Bool) (d : Nat) (ml : List Value) (t : T) (Q : Option Value → T → Prop) (u : Int32) (r : List Value) : vc xs zH_97 (n + 1) b d 97 11 ml (.int u :: r) t Q = (if u = 0 then vc xs zH_97 n true d 97 14 ml r t Q else vc xs zH_97 n true d 97 16 ml r t Q) := by
  rw [vc_q (o := (21, 0, 16, 1, [])) (by decide +kernel)]; rfl
theorem v_97_14 (xs : Option (List Int32)) (n : Nat) (b : Bool) (d : Nat) (ml : List Value) (t : T) (Q : Option Value → T → Prop) (st : List Value) : vc xs zH_97 (n + 1) b d 97 14 ml st t Q = vc xs zH_97 n true d 97 15 ml (.int (-1) :: st) t Q := by
  rw [vc_q (o := (0, (-1), 0, 0, [])) (by decide +kernel)]; rfl
theorem v_97_15 (xs : Option (List Int32)) (n : Nat) (b : Bool) (d : Nat) (ml : List Value) (t : T) (Q : Option Value → T → Prop) (v : Int32) : vc xs zH_97 (n + 1) b d 97 15 ml [.int v] t Q = Q (some (.int v)) t := by
  rw [vc_q (o := (40, 0, 0, 0, [])) (by decide +kernel)]; rfl
theorem v_97_16 (xs : Option (List Int32)) (n : Nat) (b : Bool) (d : Nat) (ml : List Value) (t : T) (Q : Option Value → T → Prop) (st : List Value) : vc xs zH_97 (n + 1) b d 97 16 ml st t Q = vga ml 0 (fun v => vc xs zH_97 n true d 97 17 ml (.ref v :: st) t Q) := by
  rw [vc_q (o := (2, 0, 0, 0, [])) (by decide +kernel)]; rfl
theorem v_97_17 (xs : Option (List Int32)) (n : Nat) (b : Bool) (d : Nat) (ml : List Value) (t : T) (Q : Option Value → T → Prop) (st : List Value) : vc xs zH_97 (n + 1) b d 97 17 ml st t Q = vgi ml 2 (fun v => vc xs zH_97 n true d 97 18 ml (.int v :: st) t Q) := by
  rw [vc_q (o := (1, 0, 2, 0, [])) (by decide +kernel)]; rfl
theorem v_97_18 (xs : Option (List Int32)) (n : Nat) (b : Bool) (d : Nat) (ml : List Value) (t : T) (Q : Option Value → T → Prop) (st : List Value) : vc xs zH_97 (n + 1) b d 97 18 ml st t Q = vc xs zH_97 n true d 97 21 ml (.int 183 :: st) t Q := by
  rw [vc_q (o := (0, 183, 2, 0, [])) (by decide +kernel)]; rfl
theorem v_97_21 (xs : Option (List Int32)) (n : Nat) (b : Bool) (d : Nat) (ml : List Value) (t : T) (Q : Option Value → T → Prop) (st : List Value) : vc xs zH_97 (n + 1) b d 97 21 ml st t Q = (st.all zc1 = true ∧ vtk 3 st [] (fun as rest => rest.length ≤ 8 ∧ vrc as 12 (twc d 44 as t (fun r t' => vc xs zH_97 n true d 97 24 ml (r.toList ++ rest) t' Q)))) := by
  rw [vc_q (o := (36, 0, 44, 2, [(0, 12)])) (by decide +kernel)]; rfl
theorem v_97_24 (xs : Option (List Int32)) (n : Nat) (b : Bool) (d : Nat) (ml : List Value) (t : T) (Q : Option Value → T → Prop) (st : List Value) : vc xs zH_97 (n + 1) b d 97 24 ml st t Q = vga ml 0 (fun v => vc xs zH_97 n true d 97 25 ml (.ref v :: st) t Q) := by
  rw [vc_q (o := (2, 0, 0, 0, [])) (by decide +kernel)]; rfl
theorem v_97_25 (xs : Option (List Int32)) (n : Nat) (b : Bool) (d : Nat) (ml : List Value) (t : T) (Q : Option Value → T → Prop) (st : List Value) : vc xs zH_97 (n + 1) b d 97 25 ml st t Q = vc xs zH_97 n true d 97 28 ml (.int 183 :: st) t Q := by
  rw [vc_q (o := (0, 183, 2, 0, [])) (by decide +kernel)]; rfl
theorem v_97_28 (xs : Option (List Int32)) (n : Nat) (b : Bool) (d : Nat) (ml : List Value) (t : T) (Q : Option Value → T → Prop) (st : List Value) : vc xs zH_97 (n + 1) b d 97 28 ml st t Q = (st.all zc1 = true ∧ vtk 2 st [] (fun as rest => rest.length ≤ 8 ∧ vrc as 12 (twc d 71 as t (fun r t' => vc xs zH_97 n true d 97 31 ml (r.toList ++ rest) t' Q)))) := by
  rw [vc_q (o := (36, 0, 71, 1, [(0, 12)])) (by decide +kernel)]; rfl
theorem v_97_31 (xs : Option (List Int32)) (n : Nat) (b : Bool) (d : Nat) (ml : List Value) (t : T) (Q : Option Value → T → Prop) (st : List Value) : vc xs zH_97 (n + 1) b d 97 31 ml st t Q = vc xs zH_97 n true d 97 33 ml (.int 52 :: st) t Q := by
  rw [vc_q (o := (0, 52, 1, 0, [])) (by decide +kernel)]; rfl
theorem v_97_33 (xs : Option (List Int32)) (n : Nat) (b : Bool) (d : Nat) (ml : List Value) (t : T) (Q : Option Value → T → Prop) (st : List Value) : vc xs zH_97 (n + 1) b d 97 33 ml st t Q = vc xs zH_97 n true d 97 35 ml (.int 12 :: st) t Q := by
  rw [vc_q (o := (0, 12, 1, 0, [])) (by decide +kernel)]; rfl
theorem v_97_35 (xs : Option (List Int32)) (n : Nat) (b : Bool) (d : Nat) (ml : List Value) (t : T) (Q : Option Value → T → Prop) (st : List Value) : vc xs zH_97 (n + 1) b d 97 35 ml st t Q = vgi ml 1 (fun v => vc xs zH_97 n true d 97 36 ml (.int v :: st) t Q) := by
  rw [vc_q (o := (1, 0, 1, 0, [])) (by decide +kernel)]; rfl
theorem v_97_36 (xs : Option (List Int32)) (n : Nat) (b : Bool) (d : Nat) (ml : List Value) (t : T) (Q : Option Value → T → Prop) (u v : Int32) (r : List Value) : vc xs zH_97 (n + 1) b d 97 36 ml (.int v :: .int u :: r) t Q = vc xs zH_97 n true d 97 37 ml (.int (u * v) :: r) t Q := by
  rw [vc_q (o := (8, 0, 0, 0, [])) (by decide +kernel)]; rfl
theorem v_97_37 (xs : Option (List Int32)) (n : Nat) (b : Bool) (d : Nat) (ml : List Value) (t : T) (Q : Option Value → T → Prop) (u v : Int32) (r : List Value) : vc xs zH_97 (n + 1) b d 97 37 ml (.int v :: .int u :: r) t Q = vc xs zH_97 n true d 97 38 ml (.int (u + v) :: r) t Q := by
  rw [vc_q (o := (6, 0, 0, 0, [])) (by decide +kernel)]; rfl
theorem v_97_38 (xs : Option (List Int32)) (n : Nat) (b : Bool) (d : Nat) (ml : List Value) (t : T) (Q : Option Value → T → Prop) (v : Int32) (r : List Value) : vc xs zH_97 (n + 1) b d 97 38 ml (.int v :: r) t Q = vset ml 3 (.int v) (fun l => vc xs zH_97 n true d 97 39 l r t Q) := by
  rw [vc_q (o := (3, 0, 3, 0, [])) (by decide +kernel)]; rfl
theorem v_97_39 (xs : Option (List Int32)) (n : Nat) (b : Bool) (d : Nat) (ml : List Value) (t : T) (Q : Option Value → T → Prop) (st : List Value) : vc xs zH_97 (n + 1) b d 97 39 ml st t Q = vga ml 0 (fun v => vc xs zH_97 n true d 97 40 ml (.ref v :: st) t Q) := by
  rw [vc_q (o := (2, 0, 0, 0, [])) (by decide +kernel)]; rfl
theorem v_97_40 (xs : Option (List Int32)) (n : Nat) (b : Bool) (d : Nat) (ml : List Value) (t : T) (Q : Option Value → T → Prop) (st : List Value) : vc xs zH_97 (n + 1) b d 97 40 ml st t Q = vgi ml 3 (fun v => vc xs zH_97 n true d 97 41 ml (.int v :: st) t Q) := by
  rw [vc_q (o := (1, 0, 3, 0, [])) (by decide +kernel)]; rfl
theorem v_97_41 (xs : Option (List Int32)) (n : Nat) (b : Bool) (d : Nat) (ml : List Value) (t : T) (Q : Option Value → T → Prop) (st : List Value) : vc xs zH_97 (n + 1) b d 97 41 ml st t Q = vga ml 0 (fun v => vc xs zH_97 n true d 97 42 ml (.ref v :: st) t Q) := by
  rw [vc_q (o := (2, 0, 0, 0, [])) (by decide +kernel)]; rfl
theorem v_97_42 (xs : Option (List Int32)) (n : Nat) (b : Bool) (d : Nat) (ml : List Value) (t : T) (Q : Option Value → T → Prop) (u : Nat) (r : List Value) : vc xs zH_97 (n + 1) b d 97 42 ml (.ref u :: r) t Q = (vtag u = 12 ∧ vc xs zH_97 n true d 97 45 ml (.ref (tref t u 24) :: r) t Q) := by
  rw [vc_q (o := (25, 0, 12, 24, [])) (by decide +kernel)]; rfl
theorem v_97_45 (xs : Option (List Int32)) (n : Nat) (b : Bool) (d : Nat) (ml : List Value) (t : T) (Q : Option Value → T → Prop) (st : List Value) : vc xs zH_97 (n + 1) b d 97 45 ml st t Q = vgi ml 1 (fun v => vc xs zH_97 n true d 97 46 ml (.int v :: st) t Q) := by
  rw [vc_q (o := (1, 0, 1, 0, [])) (by decide +kernel)]; rfl
theorem v_97_46 (xs : Option (List Int32)) (n : Nat) (b : Bool) (d : Nat) (ml : List Value) (t : T) (Q : Option Value → T → Prop) (v : Int32) (u : Nat) (r : List Value) : vc xs zH_97 (n + 1) b d 97 46 ml (.int v :: .ref u :: r) t Q = (vtag u = 100 ∧ vinb v (vlen u) ∧ vc xs zH_97 n true d 97 47 ml (.int (t.1 u v.toNatClampNeg) :: r) t Q) := by
  rw [vc_q (o := (29, 0, 0, 0, [])) (by decide +kernel)]; rfl
theorem v_97_47 (xs : Option (List Int32)) (n : Nat) (b : Bool) (d : Nat) (ml : List Value) (t : T) (Q : Option Value → T → Prop) (st : List Value) : vc xs zH_97 (n + 1) b d 97 47 ml st t Q = vc xs zH_97 n true d 97 50 ml (.int 183 :: st) t Q := by
  rw [vc_q (o := (0, 183, 2, 0, [])) (by decide +kernel)]; rfl
theorem v_97_50 (xs : Option (List Int32)) (n : Nat) (b : Bool) (d : Nat) (ml : List Value) (t : T) (Q : Option Value → T → Prop) (st : List Value) : vc xs zH_97 (n + 1) b d 97 50 ml st t Q = (st.all zc1 = true ∧ vtk 4 st [] (fun as rest => rest.length ≤ 8 ∧ vrc as 12 (twc d 94 as t (fun r t' => vc xs zH_97 n true d 97 53 ml (r.toList ++ rest) t' Q)))) := by
  rw [vc_q (o := (36, 0, 94, 3, [(0, 12)])) (by decide +kernel)]; rfl
theorem v_97_53 (xs : Option (List Int32)) (n : Nat) (b : Bool) (d : Nat) (ml : List Value) (t : T) (Q : Option Value → T → Prop) (v : Int32) (r : List Value) : vc xs zH_97 (n + 1) b d 97 53 ml (.int v :: r) t Q = vset ml 4 (.int v) (fun l => vc xs zH_97 n true d 97 55 l r t Q) := by
  rw [vc_q (o := (3, 0, 4, 1, [])) (by decide +kernel)]; rfl
theorem v_97_55 (xs : Option (List Int32)) (n : Nat) (b : Bool) (d : Nat) (ml : List Value) (t : T) (Q : Option Value → T → Prop) (st : List Value) : vc xs zH_97 (n + 1) b d 97 55 ml st t Q = vgi ml 4 (fun v => vc xs zH_97 n true d 97 57 ml (.int v :: st) t Q) := by
  rw [vc_q (o := (1, 0, 4, 1, [])) (by decide +kernel)]; rfl
theorem v_97_57 (xs : Option (List Int32)) (n : Nat) (b : Bool) (d : Nat) (ml : List Value) (t : T) (Q : Option Value → T → Prop) (st : List Value) : vc xs zH_97 (n + 1) b d 97 57 ml st t Q = vc xs zH_97 n true d 97 59 ml (.int 12 :: st) t Q := by
  rw [vc_q (o := (0, 12, 1, 0, [])) (by decide +kernel)]; rfl
theorem v_97_59 (xs : Option (List Int32)) (n : Nat) (b : Bool) (d : Nat) (ml : List Value) (t : T) (Q : Option Value → T → Prop) (u v : Int32) (r : List Value) : vc xs zH_97 (n + 1) b d 97 59 ml (.int v :: .int u :: r) t Q = (if u = v then vc xs zH_97 n true d 97 62 ml r t Q else vc xs zH_97 n true d 97 65 ml r t Q) := by
  rw [vc_q (o := (20, 0, 65, 1, [])) (by decide +kernel)]; rfl
theorem v_97_62 (xs : Option (List Int32)) (n : Nat) (b : Bool) (d : Nat) (ml : List Value) (t : T) (Q : Option Value → T → Prop) (st : List Value) : vc xs zH_97 (n + 1) b d 97 62 ml st t Q = vc xs zH_97 n true d 97 64 ml (.int (-2) :: st) t Q := by
  rw [vc_q (o := (0, (-2), 1, 0, [])) (by decide +kernel)]; rfl
theorem v_97_64 (xs : Option (List Int32)) (n : Nat) (b : Bool) (d : Nat) (ml : List Value) (t : T) (Q : Option Value → T → Prop) (v : Int32) : vc xs zH_97 (n + 1) b d 97 64 ml [.int v] t Q = Q (some (.int v)) t := by
  rw [vc_q (o := (40, 0, 0, 0, [])) (by decide +kernel)]; rfl
theorem v_97_65 (xs : Option (List Int32)) (n : Nat) (b : Bool) (d : Nat) (ml : List Value) (t : T) (Q : Option Value → T → Prop) (st : List Value) : vc xs zH_97 (n + 1) b d 97 65 ml st t Q = vgi ml 4 (fun v => vc xs zH_97 n true d 97 67 ml (.int v :: st) t Q) := by
  rw [vc_q (o := (1, 0, 4, 1, [])) (by decide +kernel)]; rfl
theorem v_97_67 (xs : Option (List Int32)) (n : Nat) (b : Bool) (d : Nat) (ml : List Value) (t : T) (Q : Option Value → T → Prop) (st : List Value) : vc xs zH_97 (n + 1) b d 97 67 ml st t Q = vga ml 0 (fun v => vc xs zH_97 n true d 97 68 ml (.ref v :: st) t Q) := by
  rw [vc_q (o := (2, 0, 0, 0, [])) (by decide +kernel)]; rfl
theorem v_97_68 (xs : Option (List Int32)) (n : Nat) (b : Bool) (d : Nat) (ml : List Value) (t : T) (Q : Option Value → T → Prop) (u : Nat) (r : List Value) : vc xs zH_97 (n + 1) b d 97 68 ml (.ref u :: r) t Q = (vtag u = 12 ∧ vc xs zH_97 n true d 97 71 ml (.ref (tref t u 24) :: r) t Q) := by
  rw [vc_q (o := (25, 0, 12, 24, [])) (by decide +kernel)]; rfl
theorem v_97_71 (xs : Option (List Int32)) (n : Nat) (b : Bool) (d : Nat) (ml : List Value) (t : T) (Q : Option Value → T → Prop) (st : List Value) : vc xs zH_97 (n + 1) b d 97 71 ml st t Q = vgi ml 1 (fun v => vc xs zH_97 n true d 97 72 ml (.int v :: st) t Q) := by
  rw [vc_q (o := (1, 0, 1, 0, [])) (by decide +kernel)]; rfl
theorem v_97_72 (xs : Option (List Int32)) (n : Nat) (b : Bool) (d : Nat) (ml : List Value) (t : T) (Q : Option Value → T → Prop) (v : Int32) (u : Nat) (r : List Value) : vc xs zH_97 (n + 1) b d 97 72 ml (.int v :: .ref u :: r) t Q = (vtag u = 100 ∧ vinb v (vlen u) ∧ vc xs zH_97 n true d 97 73 ml (.int (t.1 u v.toNatClampNeg) :: r) t Q) := by
  rw [vc_q (o := (29, 0, 0, 0, [])) (by decide +kernel)]; rfl
theorem v_97_73 (xs : Option (List Int32)) (n : Nat) (b : Bool) (d : Nat) (ml : List Value) (t : T) (Q : Option Value → T → Prop) (u v : Int32) (r : List Value) : vc xs zH_97 (n + 1) b d 97 73 ml (.int v :: .int u :: r) t Q = (if u = v then vc xs zH_97 n true d 97 76 ml r t Q else vc xs zH_97 n true d 97 97 ml r t Q) := by
  rw [vc_q (o := (20, 0, 97, 1, [])) (by decide +kernel)]; rfl
theorem v_97_76 (xs : Option (List Int32)) (n : Nat) (b : Bool) (d : Nat) (ml : List Value) (t : T) (Q : Option Value → T → Prop) (st : List Value) : vc xs zH_97 (n + 1) b d 97 76 ml st t Q = vga ml 0 (fun v => vc xs zH_97 n true d 97 77 ml (.ref v :: st) t Q) := by
  rw [vc_q (o := (2, 0, 0, 0, [])) (by decide +kernel)]; rfl
theorem v_97_77 (xs : Option (List Int32)) (n : Nat) (b : Bool) (d : Nat) (ml : List Value) (t : T) (Q : Option Value → T → Prop) (st : List Value) : vc xs zH_97 (n + 1) b d 97 77 ml st t Q = vc xs zH_97 n true d 97 80 ml (.int 183 :: st) t Q := by
  rw [vc_q (o := (0, 183, 2, 0, [])) (by decide +kernel)]; rfl
theorem v_97_80 (xs : Option (List Int32)) (n : Nat) (b : Bool) (d : Nat) (ml : List Value) (t : T) (Q : Option Value → T → Prop) (st : List Value) : vc xs zH_97 (n + 1) b d 97 80 ml st t Q = vgi ml 3 (fun v => vc xs zH_97 n true d 97 81 ml (.int v :: st) t Q) := by
  rw [vc_q (o := (1, 0, 3, 0, [])) (by decide +kernel)]; rfl
theorem v_97_81 (xs : Option (List Int32)) (n : Nat) (b : Bool) (d : Nat) (ml : List Value) (t : T) (Q : Option Value → T → Prop) (st : List Value) : vc xs zH_97 (n + 1) b d 97 81 ml st t Q = vgi ml 4 (fun v => vc xs zH_97 n true d 97 83 ml (.int v :: st) t Q) := by
  rw [vc_q (o := (1, 0, 4, 1, [])) (by decide +kernel)]; rfl
theorem v_97_83 (xs : Option (List Int32)) (n : Nat) (b : Bool) (d : Nat) (ml : List Value) (t : T) (Q : Option Value → T → Prop) (u v : Int32) (r : List Value) : vc xs zH_97 (n + 1) b d 97 83 ml (.int v :: .int u :: r) t Q = vc xs zH_97 n true d 97 84 ml (.int (u + v) :: r) t Q := by
  rw [vc_q (o := (6, 0, 0, 0, [])) (by decide +kernel)]; rfl
theorem v_97_84 (xs : Option (List Int32)) (n : Nat) (b : Bool) (d : Nat) (ml : List Value) (t : T) (Q : Option Value → T → Prop) (st : List Value) : vc xs zH_97 (n + 1) b d 97 84 ml st t Q = (st.all zc1 = true ∧ vtk 3 st [] (fun as rest => rest.length ≤ 8 ∧ vrc as 12 (twc d 44 as t (fun r t' => vc xs zH_97 n true d 97 87 ml (r.toList ++ rest) t' Q)))) := by
  rw [vc_q (o := (36, 0, 44, 2, [(0, 12)])) (by decide +kernel)]; rfl
theorem v_97_87 (xs : Option (List Int32)) (n : Nat) (b : Bool) (d : Nat) (ml : List Value) (t : T) (Q : Option Value → T → Prop) (st : List Value) : vc xs zH_97 (n + 1) b d 97 87 ml st t Q = vga ml 0 (fun v => vc xs zH_97 n true d 97 88 ml (.ref v :: st) t Q) := by
  rw [vc_q (o := (2, 0, 0, 0, [])) (by decide +kernel)]; rfl
theorem v_97_88 (xs : Option (List Int32)) (n : Nat) (b : Bool) (d : Nat) (ml : List Value) (t : T) (Q : Option Value → T → Prop) (u : Nat) (r : List Value) : vc xs zH_97 (n + 1) b d 97 88 ml (.ref u :: r) t Q = (vtag u = 12 ∧ vc xs zH_97 n true d 97 91 ml (.ref (tref t u 24) :: r) t Q) := by
  rw [vc_q (o := (25, 0, 12, 24, [])) (by decide +kernel)]; rfl
theorem v_97_91 (xs : Option (List Int32)) (n : Nat) (b : Bool) (d : Nat) (ml : List Value) (t : T) (Q : Option Value → T → Prop) (st : List Value) : vc xs zH_97 (n + 1) b d 97 91 ml st t Q = vgi ml 1 (fun v => vc xs zH_97 n true d 97 92 ml (.int v :: st) t Q) := by
  rw [vc_q (o := (1, 0, 1, 0, [])) (by decide +kernel)]; rfl
theorem v_97_92 (xs : Option (List Int32)) (n : Nat) (b : Bool) (d : Nat) (ml : List Value) (t : T) (Q : Option Value → T → Prop) (v : Int32) (u : Nat) (r : List Value) : vc xs zH_97 (n + 1) b d 97 92 ml (.int v :: .ref u :: r) t Q = vc xs zH_97 n true d 97 93 ml (.int v :: .ref u :: .int v :: .ref u :: r) t Q := by
  rw [vc_q (o := (18, 0, 0, 0, [])) (by decide +kernel)]; rfl
theorem v_97_93 (xs : Option (List Int32)) (n : Nat) (b : Bool) (d : Nat) (ml : List Value) (t : T) (Q : Option Value → T → Prop) (v : Int32) (u : Nat) (r : List Value) : vc xs zH_97 (n + 1) b d 97 93 ml (.int v :: .ref u :: r) t Q = (vtag u = 100 ∧ vinb v (vlen u) ∧ vc xs zH_97 n true d 97 94 ml (.int (t.1 u v.toNatClampNeg) :: r) t Q) := by
  rw [vc_q (o := (29, 0, 0, 0, [])) (by decide +kernel)]; rfl
theorem v_97_94 (xs : Option (List Int32)) (n : Nat) (b : Bool) (d : Nat) (ml : List Value) (t : T) (Q : Option Value → T → Prop) (st : List Value) : vc xs zH_97 (n + 1) b d 97 94 ml st t Q = vc xs zH_97 n true d 97 95 ml (.int 1 :: st) t Q := by
  rw [vc_q (o := (0, 1, 0, 0, [])) (by decide +kernel)]; rfl
theorem v_97_95 (xs : Option (List Int32)) (n : Nat) (b : Bool) (d : Nat) (ml : List Value) (t : T) (Q : Option Value → T → Prop) (u v : Int32) (r : List Value) : vc xs zH_97 (n + 1) b d 97 95 ml (.int v :: .int u :: r) t Q = vc xs zH_97 n true d 97 96 ml (.int (u + v) :: r) t Q := by
  rw [vc_q (o := (6, 0, 0, 0, [])) (by decide +kernel)]; rfl
theorem v_97_96 (xs : Option (List Int32)) (n : Nat) (b : Bool) (d : Nat) (ml : List Value) (t : T) (Q : Option Value → T → Prop) (w v : Int32) (u : Nat) (r : List Value) : vc xs zH_97 (n + 1) b d 97 96 ml (.int w :: .int v :: .ref u :: r) t Q = (vtag u = 100 ∧ vinb v (vlen u) ∧ vc xs zH_97 n true d 97 97 ml r (tsi t u v.toNatClampNeg w) Q) := by
  rw [vc_q (o := (32, 0, 0, 0, [])) (by decide +kernel)]; rfl
theorem v_97_97 (xs : Option (List Int32)) (n : Nat) (b : Bool) (d : Nat) (ml : List Value) (t : T) (Q : Option Value → T → Prop) (st : List Value) : vc xs zH_97 (n + 1) b d 97 97 ml st t Q = vga ml 0 (fun v => vc xs zH_97 n true d 97 98 ml (.ref v :: st) t Q) := by
  rw [vc_q (o := (2, 0, 0, 0, [])) (by decide +kernel)]; rfl
theorem v_97_98 (xs : Option (List Int32)) (n : Nat) (b : Bool) (d : Nat) (ml : List Value) (t : T) (Q : Option Value → T → Prop) (st : List Value) : vc xs zH_97 (n + 1) b d 97 98 ml st t Q = (st.all zc1 = true ∧ vtk 1 st [] (fun as rest => rest.length ≤ 8 ∧ vrc as 12 (twc d 95 as t (fun r t' => vc xs zH_97 n true d 97 101 ml (r.toList ++ rest) t' Q)))) := by
  rw [vc_q (o := (36, 0, 95, 0, [(0, 12)])) (by decide +kernel)]; rfl
theorem v_97_101 (xs : Option (List Int32)) (n : Nat) (b : Bool) (d : Nat) (ml : List Value) (t : T) (Q : Option Value → T → Prop) (st : List Value) : vc xs zH_97 (n + 1) b d 97 101 ml st t Q = vga ml 0 (fun v => vc xs zH_97 n true d 97 102 ml (.ref v :: st) t Q) := by
  rw [vc_q (o := (2, 0, 0, 0, [])) (by decide +kernel)]; rfl
theorem v_97_102 (xs : Option (List Int32)) (n : Nat) (b : Bool) (d : Nat) (ml : List Value) (t : T) (Q : Option Value → T → Prop) (st : List Value) : vc xs zH_97 (n + 1) b d 97 102 ml st t Q = (st.all zc1 = true ∧ vtk 1 st [] (fun as rest => rest.length ≤ 8 ∧ vrc as 12 (twc d 96 as t (fun r t' => vc xs zH_97 n true d 97 105 ml (r.toList ++ rest) t' Q)))) := by
  rw [vc_q (o := (36, 0, 96, 0, [(0, 12)])) (by decide +kernel)]; rfl
theorem v_97_105 (xs : Option (List Int32)) (n : Nat) (b : Bool) (d : Nat) (ml : List Value) (t : T) (Q : Option Value → T → Prop) (v : Int32) (r : List Value) : vc xs zH_97 (n + 1) b d 97 105 ml (.int v :: r) t Q = vset ml 5 (.int v) (fun l => vc xs zH_97 n true d 97 107 l r t Q) := by
  rw [vc_q (o := (3, 0, 5, 1, [])) (by decide +kernel)]; rfl
theorem v_97_107 (xs : Option (List Int32)) (n : Nat) (b : Bool) (d : Nat) (ml : List Value) (t : T) (Q : Option Value → T → Prop) (st : List Value) : vc xs zH_97 (n + 1) b d 97 107 ml st t Q = vgi ml 5 (fun v => vc xs zH_97 n true d 97 109 ml (.int v :: st) t Q) := by
  rw [vc_q (o := (1, 0, 5, 1, [])) (by decide +kernel)]; rfl
theorem v_97_109 (xs : Option (List Int32)) (n : Nat) (b : Bool) (d : Nat) (ml : List Value) (t : T) (Q : Option Value → T → Prop) (u : Int32) (r : List Value) : vc xs zH_97 (n + 1) b d 97 109 ml (.int u :: r) t Q = (if u < 0 then vc xs zH_97 n true d 97 112 ml r t Q else vc xs zH_97 n true d 97 117 ml r t Q) := by
  rw [vc_q (o := (21, 0, 117, 3, [])) (by decide +kernel)]; rfl
theorem v_97_112 (xs : Option (List Int32)) (n : Nat) (b : Bool) (d : Nat) (ml : List Value) (t : T) (Q : Option Value → T → Prop) (st : List Value) : vc xs zH_97 (n + 1) b d 97 112 ml st t Q = vgi ml 5 (fun v => vc xs zH_97 n true d 97 114 ml (.int v :: st) t Q) := by
  rw [vc_q (o := (1, 0, 5, 1, [])) (by decide +kernel)]; rfl
theorem v_97_114 (xs : Option (List Int32)) (n : Nat) (b : Bool) (d : Nat) (ml : List Value) (t : T) (Q : Option Value → T → Prop) (st : List Value) : vc xs zH_97 (n + 1) b d 97 114 ml st t Q = vc xs zH_97 n true d 97 123 ml st t Q := by
  rw [vc_q (o := (22, 0, 123, 0, [])) (by decide +kernel)]; rfl
theorem v_97_117 (xs : Option (List Int32)) (n : Nat) (b : Bool) (d : Nat) (ml : List Value) (t : T) (Q : Option Value → T → Prop) (st : List Value) : vc xs zH_97 (n + 1) b d 97 117 ml st t Q = vga ml 0 (fun v => vc xs zH_97 n true d 97 118 ml (.ref v :: st) t Q) := by
  rw [vc_q (o := (2, 0, 0, 0, [])) (by decide +kernel)]; rfl
theorem v_97_118 (xs : Option (List Int32)) (n : Nat) (b : Bool) (d : Nat) (ml : List Value) (t : T) (Q : Option Value → T → Prop) (u : Nat) (r : List Value) : vc xs zH_97 (n + 1) b d 97 118 ml (.ref u :: r) t Q = (vtag u = 12 ∧ vc xs zH_97 n true d 97 121 ml (.ref (tref t u 24) :: r) t Q) := by
  rw [vc_q (o := (25, 0, 12, 24, [])) (by decide +kernel)]; rfl
theorem v_97_121 (xs : Option (List Int32)) (n : Nat) (b : Bool) (d : Nat) (ml : List Value) (t : T) (Q : Option Value → T → Prop) (st : List Value) : vc xs zH_97 (n + 1) b d 97 121 ml st t Q = vgi ml 1 (fun v => vc xs zH_97 n true d 97 122 ml (.int v :: st) t Q) := by
  rw [vc_q (o := (1, 0, 1, 0, [])) (by decide +kernel)]; rfl
theorem v_97_122 (xs : Option (List Int32)) (n : Nat) (b : Bool) (d : Nat) (ml : List Value) (t : T) (Q : Option Value → T → Prop) (v : Int32) (u : Nat) (r : List Value) : vc xs zH_97 (n + 1) b d 97 122 ml (.int v :: .ref u :: r) t Q = (vtag u = 100 ∧ vinb v (vlen u) ∧ vc xs zH_97 n true d 97 123 ml (.int (t.1 u v.toNatClampNeg) :: r) t Q) := by
  rw [vc_q (o := (29, 0, 0, 0, [])) (by decide +kernel)]; rfl
theorem v_97_123 (xs : Option (List Int32)) (n : Nat) (b : Bool) (d : Nat) (ml : List Value) (t : T) (Q : Option Value → T → Prop) (v : Int32) : vc xs zH_97 (n + 1) b d 97 123 ml [.int v] t Q = Q (some (.int v)) t := by
  rw [vc_q (o := (40, 0, 0, 0, [])) (by decide +kernel)]; rfl
def zH_98 : List Nat := [18]
theorem v_98_0 (xs : Option (List Int32)) (n : Nat) (b : Bool) (d : Nat) (ml : List Value) (t : T) (Q : Option Value → T → Prop) (st : List Value) : vc xs zH_98 (n + 1) b d 98 0 ml st t Q = vga ml 0 (fun v => vc xs zH_98 n true d 98 1 ml (.ref v :: st) t Q) := by
  rw [vc_q (o := (2, 0, 0, 0, [])) (by decide +kernel)]; rfl
theorem v_98_1 (xs : Option (List Int32)) (n : Nat) (b : Bool) (d : Nat) (ml : List Value) (t : T) (Q : Option Value → T → Prop) (st : List Value) : vc xs zH_98 (n + 1) b d 98 1 ml st t Q = vgi ml 1 (fun v => vc xs zH_98 n true d 98 2 ml (.int v :: st) t Q) := by
  rw [vc_q (o := (1, 0, 1, 0, [])) (by decide +kernel)]; rfl
theorem v_98_2 (xs : Option (List Int32)) (n : Nat) (b : Bool) (d : Nat) (ml : List Value) (t : T) (Q : Option Value → T → Prop) (st : List Value) : vc xs zH_98 (n + 1) b d 98 2 ml st t Q = vgi ml 2 (fun v => vc xs zH_98 n true d 98 3 ml (.int v :: st) t Q) := by
  rw [vc_q (o := (1, 0, 2, 0, [])) (by decide +kernel)]; rfl
theorem v_98_3 (xs : Option (List Int32)) (n : Nat) (b : Bool) (d : Nat) (ml : List Value) (t : T) (Q : Option Value → T → Prop) (st : List Value) : vc xs zH_98 (n + 1) b d 98 3 ml st t Q = (st.all zc1 = true ∧ vtk 3 st [] (fun as rest => rest.length ≤ 8 ∧ vrc as 12 (twc d 90 as t (fun r t' => vc xs zH_98 n true d 98 6 ml (r.toList ++ rest) t' Q)))) := by
  rw [vc_q (o := (36, 0, 90, 2, [(0, 12)])) (by decide +kernel)]; rfl
theorem v_98_6 (xs : Option (List Int32)) (n : Nat) (b : Bool) (d : Nat) (ml : List Value) (t : T) (Q : Option Value → T → Prop) (v : Int32) (r : List Value) : vc xs zH_98 (n + 1) b d 98 6 ml (.int v :: r) t Q = vset ml 3 (.int v) (fun l => vc xs zH_98 n true d 98 7 l r t Q) := by
  rw [vc_q (o := (3, 0, 3, 0, [])) (by decide +kernel)]; rfl
theorem v_98_7 (xs : Option (List Int32)) (n : Nat) (b : Bool) (d : Nat) (ml : List Value) (t : T) (Q : Option Value → T → Prop) (st : List Value) : vc xs zH_98 (n + 1) b d 98 7 ml st t Q = vga ml 0 (fun v => vc xs zH_98 n true d 98 8 ml (.ref v :: st) t Q) := by
  rw [vc_q (o := (2, 0, 0, 0, [])) (by decide +kernel)]; rfl
theorem v_98_8 (xs : Option (List Int32)) (n : Nat) (b : Bool) (d : Nat) (ml : List Value) (t : T) (Q : Option Value → T → Prop) (u : Nat) (r : List Value) : vc xs zH_98 (n + 1) b d 98 8 ml (.ref u :: r) t Q = (vtag u = 12 ∧ vc xs zH_98 n true d 98 11 ml (.ref (tref t u 16) :: r) t Q) := by
  rw [vc_q (o := (25, 0, 12, 16, [])) (by decide +kernel)]; rfl
theorem v_98_11 (xs : Option (List Int32)) (n : Nat) (b : Bool) (d : Nat) (ml : List Value) (t : T) (Q : Option Value → T → Prop) (st : List Value) : vc xs zH_98 (n + 1) b d 98 11 ml st t Q = vgi ml 1 (fun v => vc xs zH_98 n true d 98 12 ml (.int v :: st) t Q) := by
  rw [vc_q (o := (1, 0, 1, 0, [])) (by decide +kernel)]; rfl
theorem v_98_12 (xs : Option (List Int32)) (n : Nat) (b : Bool) (d : Nat) (ml : List Value) (t : T) (Q : Option Value → T → Prop) (v : Int32) (u : Nat) (r : List Value) : vc xs zH_98 (n + 1) b d 98 12 ml (.int v :: .ref u :: r) t Q = (vtag u = 100 ∧ vinb v (vlen u) ∧ vc xs zH_98 n true d 98 13 ml (.int (t.1 u v.toNatClampNeg) :: r) t Q) := by
  rw [vc_q (o := (29, 0, 0, 0, [])) (by decide +kernel)]; rfl
theorem v_98_13 (xs : Option (List Int32)) (n : Nat) (b : Bool) (d : Nat) (ml : List Value) (t : T) (Q : Option Value → T → Prop) (v : Int32) (r : List Value) : vc xs zH_98 (n + 1) b d 98 13 ml (.int v :: r) t Q = vset ml 4 (.int v) (fun l => vc xs zH_98 n true d 98 15 l r t Q) := by
  rw [vc_q (o := (3, 0, 4, 1, [])) (by decide +kernel)]; rfl
theorem v_98_15 (xs : Option (List Int32)) (n : Nat) (b : Bool) (d : Nat) (ml : List Value) (t : T) (Q : Option Value → T → Prop) (st : List Value) : vc xs zH_98 (n + 1) b d 98 15 ml st t Q = vc xs zH_98 n true d 98 16 ml (.int 0 :: st) t Q := by
  rw [vc_q (o := (0, 0, 0, 0, [])) (by decide +kernel)]; rfl
theorem v_98_16 (xs : Option (List Int32)) (n : Nat) (b : Bool) (d : Nat) (ml : List Value) (t : T) (Q : Option Value → T → Prop) (v : Int32) (r : List Value) : vc xs zH_98 (n + 1) b d 98 16 ml (.int v :: r) t Q = vset ml 5 (.int v) (fun l => vc xs zH_98 n true d 98 18 l r t Q) := by
  rw [vc_q (o := (3, 0, 5, 1, [])) (by decide +kernel)]; rfl
theorem v_98_18 (xs : Option (List Int32)) (n : Nat) (d : Nat) (ml : List Value) (t : T) (Q : Option Value → T → Prop) (st : List Value) : vc xs zH_98 (n + 1) false d 98 18 ml st t Q = vgi ml 5 (fun v => vc xs zH_98 n true d 98 20 ml (.int v :: st) t Q) := by
  rw [vc_q (o := (1, 0, 5, 1, [])) (by decide +kernel)]; rfl
theorem h_98_18 (xs : Option (List Int32)) (n d : Nat) (ml st : List Value) (t : T) (Q : Option Value → T → Prop) : vc xs zH_98 (n + 1) true d 98 18 ml st t Q = twp xs d 98 18 ml st t Q := id rfl
theorem v_98_20 (xs : Option (List Int32)) (n : Nat) (b : Bool) (d : Nat) (ml : List Value) (t : T) (Q : Option Value → T → Prop) (st : List Value) : vc xs zH_98 (n + 1) b d 98 20 ml st t Q = vgi ml 3 (fun v => vc xs zH_98 n true d 98 21 ml (.int v :: st) t Q) := by
  rw [vc_q (o := (1, 0, 3, 0, [])) (by decide +kernel)]; rfl
theorem v_98_21 (xs : Option (List Int32)) (n : Nat) (b : Bool) (d : Nat) (ml : List Value) (t : T) (Q : Option Value → T → Prop) (u v : Int32) (r : List Value) : vc xs zH_98 (n + 1) b d 98 21 ml (.int v :: .int u :: r) t Q = (if u < v then vc xs zH_98 n true d 98 24 ml r t Q else vc xs zH_98 n true d 98 131 ml r t Q) := by
  rw [vc_q (o := (20, 0, 131, 3, [])) (by decide +kernel)]; rfl
theorem v_98_24 (xs : Option (List Int32)) (n : Nat) (b : Bool) (d : Nat) (ml : List Value) (t : T) (Q : Option Value → T → Prop) (st : List Value) : vc xs zH_98 (n + 1) b d 98 24 ml st t Q = vga ml 0 (fun v => vc xs zH_98 n true d 98 25 ml (.ref v :: st) t Q) := by
  rw [vc_q (o := (2, 0, 0, 0, [])) (by decide +kernel)]; rfl
theorem v_98_25 (xs : Option (List Int32)) (n : Nat) (b : Bool) (d : Nat) (ml : List Value) (t : T) (Q : Option Value → T → Prop) (st : List Value) : vc xs zH_98 (n + 1) b d 98 25 ml st t Q = vc xs zH_98 n true d 98 28 ml (.int 140 :: st) t Q := by
  rw [vc_q (o := (0, 140, 2, 0, [])) (by decide +kernel)]; rfl
theorem v_98_28 (xs : Option (List Int32)) (n : Nat) (b : Bool) (d : Nat) (ml : List Value) (t : T) (Q : Option Value → T → Prop) (st : List Value) : vc xs zH_98 (n + 1) b d 98 28 ml st t Q = vgi ml 5 (fun v => vc xs zH_98 n true d 98 30 ml (.int v :: st) t Q) := by
  rw [vc_q (o := (1, 0, 5, 1, [])) (by decide +kernel)]; rfl
theorem v_98_30 (xs : Option (List Int32)) (n : Nat) (b : Bool) (d : Nat) (ml : List Value) (t : T) (Q : Option Value → T → Prop) (u v : Int32) (r : List Value) : vc xs zH_98 (n + 1) b d 98 30 ml (.int v :: .int u :: r) t Q = vc xs zH_98 n true d 98 31 ml (.int (u + v) :: r) t Q := by
  rw [vc_q (o := (6, 0, 0, 0, [])) (by decide +kernel)]; rfl
theorem v_98_31 (xs : Option (List Int32)) (n : Nat) (b : Bool) (d : Nat) (ml : List Value) (t : T) (Q : Option Value → T → Prop) (st : List Value) : vc xs zH_98 (n + 1) b d 98 31 ml st t Q = (st.all zc1 = true ∧ vtk 2 st [] (fun as rest => rest.length ≤ 8 ∧ vrc as 12 (twc d 71 as t (fun r t' => vc xs zH_98 n true d 98 34 ml (r.toList ++ rest) t' Q)))) := by
  rw [vc_q (o := (36, 0, 71, 1, [(0, 12)])) (by decide +kernel)]; rfl
theorem v_98_34 (xs : Option (List Int32)) (n : Nat) (b : Bool) (d : Nat) (ml : List Value) (t : T) (Q : Option Value → T → Prop) (st : List Value) : vc xs zH_98 (n + 1) b d 98 34 ml st t Q = vc xs zH_98 n true d 98 35 ml (.int 4 :: st) t Q := by
  rw [vc_q (o := (0, 4, 0, 0, [])) (by decide +kernel)]; rfl
theorem v_98_35 (xs : Option (List Int32)) (n : Nat) (b : Bool) (d : Nat) (ml : List Value) (t : T) (Q : Option Value → T → Prop) (st : List Value) : vc xs zH_98 (n + 1) b d 98 35 ml st t Q = vc xs zH_98 n true d 98 37 ml (.int 12 :: st) t Q := by
  rw [vc_q (o := (0, 12, 1, 0, [])) (by decide +kernel)]; rfl
theorem v_98_37 (xs : Option (List Int32)) (n : Nat) (b : Bool) (d : Nat) (ml : List Value) (t : T) (Q : Option Value → T → Prop) (st : List Value) : vc xs zH_98 (n + 1) b d 98 37 ml st t Q = vgi ml 4 (fun v => vc xs zH_98 n true d 98 39 ml (.int v :: st) t Q) := by
  rw [vc_q (o := (1, 0, 4, 1, [])) (by decide +kernel)]; rfl
theorem v_98_39 (xs : Option (List Int32)) (n : Nat) (b : Bool) (d : Nat) (ml : List Value) (t : T) (Q : Option Value → T → Prop) (u v : Int32) (r : List Value) : vc xs zH_98 (n + 1) b d 98 39 ml (.int v :: .int u :: r) t Q = vc xs zH_98 n true d 98 40 ml (.int (u * v) :: r) t Q := by
  rw [vc_q (o := (8, 0, 0, 0, [])) (by decide +kernel)]; rfl
theorem v_98_40 (xs : Option (List Int32)) (n : Nat) (b : Bool) (d : Nat) (ml : List Value) (t : T) (Q : Option Value → T → Prop) (u v : Int32) (r : List Value) : vc xs zH_98 (n + 1) b d 98 40 ml (.int v :: .int u :: r) t Q = vc xs zH_98 n true d 98 41 ml (.int (u + v) :: r) t Q := by
  rw [vc_q (o := (6, 0, 0, 0, [])) (by decide +kernel)]; rfl
theorem v_98_41 (xs : Option (List Int32)) (n : Nat) (b : Bool) (d : Nat) (ml : List Value) (t : T) (Q : Option Value → T → Prop) (v : Int32) (r : List Value) : vc xs zH_98 (n + 1) b d 98 41 ml (.int v :: r) t Q = vset ml 6 (.int v) (fun l => vc xs zH_98 n true d 98 43 l r t Q) := by
  rw [vc_q (o := (3, 0, 6, 1, [])) (by decide +kernel)]; rfl
theorem v_98_43 (xs : Option (List Int32)) (n : Nat) (b : Bool) (d : Nat) (ml : List Value) (t : T) (Q : Option Value → T → Prop) (st : List Value) : vc xs zH_98 (n + 1) b d 98 43 ml st t Q = vga ml 0 (fun v => vc xs zH_98 n true d 98 44 ml (.ref v :: st) t Q) := by
  rw [vc_q (o := (2, 0, 0, 0, [])) (by decide +kernel)]; rfl
theorem v_98_44 (xs : Option (List Int32)) (n : Nat) (b : Bool) (d : Nat) (ml : List Value) (t : T) (Q : Option Value → T → Prop) (st : List Value) : vc xs zH_98 (n + 1) b d 98 44 ml st t Q = vgi ml 6 (fun v => vc xs zH_98 n true d 98 46 ml (.int v :: st) t Q) := by
  rw [vc_q (o := (1, 0, 6, 1, [])) (by decide +kernel)]; rfl
theorem v_98_46 (xs : Option (List Int32)) (n : Nat) (b : Bool) (d : Nat) (ml : List Value) (t : T) (Q : Option Value → T → Prop) (st : List Value) : vc xs zH_98 (n + 1) b d 98 46 ml st t Q = vga ml 0 (fun v => vc xs zH_98 n true d 98 47 ml (.ref v :: st) t Q) := by
  rw [vc_q (o := (2, 0, 0, 0, [])) (by decide +kernel)]; rfl
theorem v_98_47 (xs : Option (List Int32)) (n : Nat) (b : Bool) (d : Nat) (ml : List Value) (t : T) (Q : Option Value → T → Prop) (u : Nat) (r : List Value) : vc xs zH_98 (n + 1) b d 98 47 ml (.ref u :: r) t Q = (vtag u = 12 ∧ vc xs zH_98 n true d 98 50 ml (.ref (tref t u 23) :: r) t Q) := by
  rw [vc_q (o := (25, 0, 12, 23, [])) (by decide +kernel)]; rfl
theorem v_98_50 (xs : Option (List Int32)) (n : Nat) (b : Bool) (d : Nat) (ml : List Value) (t : T) (Q : Option Value → T → Prop) (st : List Value) : vc xs zH_98 (n + 1) b d 98 50 ml st t Q = vgi ml 4 (fun v => vc xs zH_98 n true d 98 52 ml (.int v :: st) t Q) := by
  rw [vc_q (o := (1, 0, 4, 1, [])) (by decide +kernel)]; rfl
theorem v_98_52 (xs : Option (List Int32)) (n : Nat) (b : Bool) (d : Nat) (ml : List Value) (t : T) (Q : Option Value → T → Prop) (v : Int32) (u : Nat) (r : List Value) : vc xs zH_98 (n + 1) b d 98 52 ml (.int v :: .ref u :: r) t Q = (vtag u = 100 ∧ vinb v (vlen u) ∧ vc xs zH_98 n true d 98 53 ml (.int (t.1 u v.toNatClampNeg) :: r) t Q) := by
  rw [vc_q (o := (29, 0, 0, 0, [])) (by decide +kernel)]; rfl
theorem v_98_53 (xs : Option (List Int32)) (n : Nat) (b : Bool) (d : Nat) (ml : List Value) (t : T) (Q : Option Value → T → Prop) (st : List Value) : vc xs zH_98 (n + 1) b d 98 53 ml st t Q = vc xs zH_98 n true d 98 56 ml (.int 140 :: st) t Q := by
  rw [vc_q (o := (0, 140, 2, 0, [])) (by decide +kernel)]; rfl
theorem v_98_56 (xs : Option (List Int32)) (n : Nat) (b : Bool) (d : Nat) (ml : List Value) (t : T) (Q : Option Value → T → Prop) (st : List Value) : vc xs zH_98 (n + 1) b d 98 56 ml st t Q = vgi ml 5 (fun v => vc xs zH_98 n true d 98 58 ml (.int v :: st) t Q) := by
  rw [vc_q (o := (1, 0, 5, 1, [])) (by decide +kernel)]; rfl
theorem v_98_58 (xs : Option (List Int32)) (n : Nat) (b : Bool) (d : Nat) (ml : List Value) (t : T) (Q : Option Value → T → Prop) (u v : Int32) (r : List Value) : vc xs zH_98 (n + 1) b d 98 58 ml (.int v :: .int u :: r) t Q = vc xs zH_98 n true d 98 59 ml (.int (u + v) :: r) t Q := by
  rw [vc_q (o := (6, 0, 0, 0, [])) (by decide +kernel)]; rfl
theorem v_98_59 (xs : Option (List Int32)) (n : Nat) (b : Bool) (d : Nat) (ml : List Value) (t : T) (Q : Option Value → T → Prop) (st : List Value) : vc xs zH_98 (n + 1) b d 98 59 ml st t Q = (st.all zc1 = true ∧ vtk 4 st [] (fun as rest => rest.length ≤ 8 ∧ vrc as 12 (twc d 94 as t (fun r t' => vc xs zH_98 n true d 98 62 ml (r.toList ++ rest) t' Q)))) := by
  rw [vc_q (o := (36, 0, 94, 3, [(0, 12)])) (by decide +kernel)]; rfl
theorem v_98_62 (xs : Option (List Int32)) (n : Nat) (b : Bool) (d : Nat) (ml : List Value) (t : T) (Q : Option Value → T → Prop) (v : Int32) (r : List Value) : vc xs zH_98 (n + 1) b d 98 62 ml (.int v :: r) t Q = vset ml 7 (.int v) (fun l => vc xs zH_98 n true d 98 64 l r t Q) := by
  rw [vc_q (o := (3, 0, 7, 1, [])) (by decide +kernel)]; rfl
theorem v_98_64 (xs : Option (List Int32)) (n : Nat) (b : Bool) (d : Nat) (ml : List Value) (t : T) (Q : Option Value → T → Prop) (st : List Value) : vc xs zH_98 (n + 1) b d 98 64 ml st t Q = vgi ml 7 (fun v => vc xs zH_98 n true d 98 66 ml (.int v :: st) t Q) := by
  rw [vc_q (o := (1, 0, 7, 1, [])) (by decide +kernel)]; rfl
theorem v_98_66 (xs : Option (List Int32)) (n : Nat) (b : Bool) (d : Nat) (ml : List Value) (t : T) (Q : Option Value → T → Prop) (st : List Value) : vc xs zH_98 (n + 1) b d 98 66 ml st t Q = vc xs zH_98 n true d 98 68 ml (.int 12 :: st) t Q := by
  rw [vc_q (o := (0, 12, 1, 0, [])) (by decide +kernel)]; rfl
theorem v_98_68 (xs : Option (List Int32)) (n : Nat) (b : Bool) (d : Nat) (ml : List Value) (t : T) (Q : Option Value → T → Prop) (u v : Int32) (r : List Value) : vc xs zH_98 (n + 1) b d 98 68 ml (.int v :: .int u :: r) t Q = (if u = v then vc xs zH_98 n true d 98 71 ml r t Q else vc xs zH_98 n true d 98 73 ml r t Q) := by
  rw [vc_q (o := (20, 0, 73, 1, [])) (by decide +kernel)]; rfl
theorem v_98_71 (xs : Option (List Int32)) (n : Nat) (b : Bool) (d : Nat) (ml : List Value) (t : T) (Q : Option Value → T → Prop) (st : List Value) : vc xs zH_98 (n + 1) b d 98 71 ml st t Q = vc xs zH_98 n true d 98 72 ml (.int 0 :: st) t Q := by
  rw [vc_q (o := (0, 0, 0, 0, [])) (by decide +kernel)]; rfl
theorem v_98_72 (xs : Option (List Int32)) (n : Nat) (b : Bool) (d : Nat) (ml : List Value) (t : T) (Q : Option Value → T → Prop) (v : Int32) : vc xs zH_98 (n + 1) b d 98 72 ml [.int v] t Q = ((v = 0 ∨ v = 1) ∧ Q (some (.int v)) t) := by
  rw [vc_q (o := (41, 0, 0, 0, [])) (by decide +kernel)]; rfl
theorem v_98_73 (xs : Option (List Int32)) (n : Nat) (b : Bool) (d : Nat) (ml : List Value) (t : T) (Q : Option Value → T → Prop) (st : List Value) : vc xs zH_98 (n + 1) b d 98 73 ml st t Q = vgi ml 7 (fun v => vc xs zH_98 n true d 98 75 ml (.int v :: st) t Q) := by
  rw [vc_q (o := (1, 0, 7, 1, [])) (by decide +kernel)]; rfl
theorem v_98_75 (xs : Option (List Int32)) (n : Nat) (b : Bool) (d : Nat) (ml : List Value) (t : T) (Q : Option Value → T → Prop) (st : List Value) : vc xs zH_98 (n + 1) b d 98 75 ml st t Q = vga ml 0 (fun v => vc xs zH_98 n true d 98 76 ml (.ref v :: st) t Q) := by
  rw [vc_q (o := (2, 0, 0, 0, [])) (by decide +kernel)]; rfl
theorem v_98_76 (xs : Option (List Int32)) (n : Nat) (b : Bool) (d : Nat) (ml : List Value) (t : T) (Q : Option Value → T → Prop) (u : Nat) (r : List Value) : vc xs zH_98 (n + 1) b d 98 76 ml (.ref u :: r) t Q = (vtag u = 12 ∧ vc xs zH_98 n true d 98 79 ml (.ref (tref t u 23) :: r) t Q) := by
  rw [vc_q (o := (25, 0, 12, 23, [])) (by decide +kernel)]; rfl
theorem v_98_79 (xs : Option (List Int32)) (n : Nat) (b : Bool) (d : Nat) (ml : List Value) (t : T) (Q : Option Value → T → Prop) (st : List Value) : vc xs zH_98 (n + 1) b d 98 79 ml st t Q = vgi ml 4 (fun v => vc xs zH_98 n true d 98 81 ml (.int v :: st) t Q) := by
  rw [vc_q (o := (1, 0, 4, 1, [])) (by decide +kernel)]; rfl
theorem v_98_81 (xs : Option (List Int32)) (n : Nat) (b : Bool) (d : Nat) (ml : List Value) (t : T) (Q : Option Value → T → Prop) (v : Int32) (u : Nat) (r : List Value) : vc xs zH_98 (n + 1) b d 98 81 ml (.int v :: .ref u :: r) t Q = (vtag u = 100 ∧ vinb v (vlen u) ∧ vc xs zH_98 n true d 98 82 ml (.int (t.1 u v.toNatClampNeg) :: r) t Q) := by
  rw [vc_q (o := (29, 0, 0, 0, [])) (by decide +kernel)]; rfl
theorem v_98_82 (xs : Option (List Int32)) (n : Nat) (b : Bool) (d : Nat) (ml : List Value) (t : T) (Q : Option Value → T → Prop) (u v : Int32) (r : List Value) : vc xs zH_98 (n + 1) b d 98 82 ml (.int v :: .int u :: r) t Q = (if u = v then vc xs zH_98 n true d 98 85 ml r t Q else vc xs zH_98 n true d 98 125 ml r t Q) := by
  rw [vc_q (o := (20, 0, 125, 1, [])) (by decide +kernel)]; rfl
theorem v_98_85 (xs : Option (List Int32)) (n : Nat) (b : Bool) (d : Nat) (ml : List Value) (t : T) (Q : Option Value → T → Prop) (st : List Value) : vc xs zH_98 (n + 1) b d 98 85 ml st t Q = vga ml 0 (fun v => vc xs zH_98 n true d 98 86 ml (.ref v :: st) t Q) := by
  rw [vc_q (o := (2, 0, 0, 0, [])) (by decide +kernel)]; rfl
theorem v_98_86 (xs : Option (List Int32)) (n : Nat) (b : Bool) (d : Nat) (ml : List Value) (t : T) (Q : Option Value → T → Prop) (st : List Value) : vc xs zH_98 (n + 1) b d 98 86 ml st t Q = vc xs zH_98 n true d 98 89 ml (.int 140 :: st) t Q := by
  rw [vc_q (o := (0, 140, 2, 0, [])) (by decide +kernel)]; rfl
theorem v_98_89 (xs : Option (List Int32)) (n : Nat) (b : Bool) (d : Nat) (ml : List Value) (t : T) (Q : Option Value → T → Prop) (st : List Value) : vc xs zH_98 (n + 1) b d 98 89 ml st t Q = vgi ml 5 (fun v => vc xs zH_98 n true d 98 91 ml (.int v :: st) t Q) := by
  rw [vc_q (o := (1, 0, 5, 1, [])) (by decide +kernel)]; rfl
theorem v_98_91 (xs : Option (List Int32)) (n : Nat) (b : Bool) (d : Nat) (ml : List Value) (t : T) (Q : Option Value → T → Prop) (u v : Int32) (r : List Value) : vc xs zH_98 (n + 1) b d 98 91 ml (.int v :: .int u :: r) t Q = vc xs zH_98 n true d 98 92 ml (.int (u + v) :: r) t Q := by
  rw [vc_q (o := (6, 0, 0, 0, [])) (by decide +kernel)]; rfl
theorem v_98_92 (xs : Option (List Int32)) (n : Nat) (b : Bool) (d : Nat) (ml : List Value) (t : T) (Q : Option Value → T → Prop) (st : List Value) : vc xs zH_98 (n + 1) b d 98 92 ml st t Q = vgi ml 6 (fun v => vc xs zH_98 n true d 98 94 ml (.int v :: st) t Q) := by
  rw [vc_q (o := (1, 0, 6, 1, [])) (by decide +kernel)]; rfl
theorem v_98_94 (xs : Option (List Int32)) (n : Nat) (b : Bool) (d : Nat) (ml : List Value) (t : T) (Q : Option Value → T → Prop) (st : List Value) : vc xs zH_98 (n + 1) b d 98 94 ml st t Q = vgi ml 7 (fun v => vc xs zH_98 n true d 98 96 ml (.int v :: st) t Q) := by
  rw [vc_q (o := (1, 0, 7, 1, [])) (by decide +kernel)]; rfl
theorem v_98_96 (xs : Option (List Int32)) (n : Nat) (b : Bool) (d : Nat) (ml : List Value) (t : T) (Q : Option Value → T → Prop) (u v : Int32) (r : List Value) : vc xs zH_98 (n + 1) b d 98 96 ml (.int v :: .int u :: r) t Q = vc xs zH_98 n true d 98 97 ml (.int (u + v) :: r) t Q := by
  rw [vc_q (o := (6, 0, 0, 0, [])) (by decide +kernel)]; rfl
theorem v_98_97 (xs : Option (List Int32)) (n : Nat) (b : Bool) (d : Nat) (ml : List Value) (t : T) (Q : Option Value → T → Prop) (st : List Value) : vc xs zH_98 (n + 1) b d 98 97 ml st t Q = (st.all zc1 = true ∧ vtk 3 st [] (fun as rest => rest.length ≤ 8 ∧ vrc as 12 (twc d 44 as t (fun r t' => vc xs zH_98 n true d 98 100 ml (r.toList ++ rest) t' Q)))) := by
  rw [vc_q (o := (36, 0, 44, 2, [(0, 12)])) (by decide +kernel)]; rfl
theorem v_98_100 (xs : Option (List Int32)) (n : Nat) (b : Bool) (d : Nat) (ml : List Value) (t : T) (Q : Option Value → T → Prop) (st : List Value) : vc xs zH_98 (n + 1) b d 98 100 ml st t Q = vga ml 0 (fun v => vc xs zH_98 n true d 98 101 ml (.ref v :: st) t Q) := by
  rw [vc_q (o := (2, 0, 0, 0, [])) (by decide +kernel)]; rfl
theorem v_98_101 (xs : Option (List Int32)) (n : Nat) (b : Bool) (d : Nat) (ml : List Value) (t : T) (Q : Option Value → T → Prop) (u : Nat) (r : List Value) : vc xs zH_98 (n + 1) b d 98 101 ml (.ref u :: r) t Q = (vtag u = 12 ∧ vc xs zH_98 n true d 98 104 ml (.ref (tref t u 25) :: r) t Q) := by
  rw [vc_q (o := (25, 0, 12, 25, [])) (by decide +kernel)]; rfl
theorem v_98_104 (xs : Option (List Int32)) (n : Nat) (b : Bool) (d : Nat) (ml : List Value) (t : T) (Q : Option Value → T → Prop) (st : List Value) : vc xs zH_98 (n + 1) b d 98 104 ml st t Q = vc xs zH_98 n true d 98 106 ml (.int 12 :: st) t Q := by
  rw [vc_q (o := (0, 12, 1, 0, [])) (by decide +kernel)]; rfl
theorem v_98_106 (xs : Option (List Int32)) (n : Nat) (b : Bool) (d : Nat) (ml : List Value) (t : T) (Q : Option Value → T → Prop) (st : List Value) : vc xs zH_98 (n + 1) b d 98 106 ml st t Q = vgi ml 4 (fun v => vc xs zH_98 n true d 98 108 ml (.int v :: st) t Q) := by
  rw [vc_q (o := (1, 0, 4, 1, [])) (by decide +kernel)]; rfl
theorem v_98_108 (xs : Option (List Int32)) (n : Nat) (b : Bool) (d : Nat) (ml : List Value) (t : T) (Q : Option Value → T → Prop) (u v : Int32) (r : List Value) : vc xs zH_98 (n + 1) b d 98 108 ml (.int v :: .int u :: r) t Q = vc xs zH_98 n true d 98 109 ml (.int (u * v) :: r) t Q := by
  rw [vc_q (o := (8, 0, 0, 0, [])) (by decide +kernel)]; rfl
theorem v_98_109 (xs : Option (List Int32)) (n : Nat) (b : Bool) (d : Nat) (ml : List Value) (t : T) (Q : Option Value → T → Prop) (st : List Value) : vc xs zH_98 (n + 1) b d 98 109 ml st t Q = vgi ml 7 (fun v => vc xs zH_98 n true d 98 111 ml (.int v :: st) t Q) := by
  rw [vc_q (o := (1, 0, 7, 1, [])) (by decide +kernel)]; rfl
theorem v_98_111 (xs : Option (List Int32)) (n : Nat) (b : Bool) (d : Nat) (ml : List Value) (t : T) (Q : Option Value → T → Prop) (u v : Int32) (r : List Value) : vc xs zH_98 (n + 1) b d 98 111 ml (.int v :: .int u :: r) t Q = vc xs zH_98 n true d 98 112 ml (.int (u + v) :: r) t Q := by
  rw [vc_q (o := (6, 0, 0, 0, [])) (by decide +kernel)]; rfl
theorem v_98_112 (xs : Option (List Int32)) (n : Nat) (b : Bool) (d : Nat) (ml : List Value) (t : T) (Q : Option Value → T → Prop) (st : List Value) : vc xs zH_98 (n + 1) b d 98 112 ml st t Q = vc xs zH_98 n true d 98 113 ml (.int 0 :: st) t Q := by
  rw [vc_q (o := (0, 0, 0, 0, [])) (by decide +kernel)]; rfl
theorem v_98_113 (xs : Option (List Int32)) (n : Nat) (b : Bool) (d : Nat) (ml : List Value) (t : T) (Q : Option Value → T → Prop) (w v : Int32) (u : Nat) (r : List Value) : vc xs zH_98 (n + 1) b d 98 113 ml (.int w :: .int v :: .ref u :: r) t Q = (vinb v (vlen u) ∧ if vtag u = 101 then vc xs zH_98 n true d 98 114 ml r (tsi t u v.toNatClampNeg w.toInt8.toInt32) Q else (vtag u = 102 ∧ (w = 0 ∨ w = 1) ∧ vc xs zH_98 n true d 98 114 ml r (tsi t u v.toNatClampNeg w) Q)) := by
  rw [vc_q (o := (33, 0, 0, 0, [])) (by decide +kernel)]; rfl
theorem v_98_114 (xs : Option (List Int32)) (n : Nat) (b : Bool) (d : Nat) (ml : List Value) (t : T) (Q : Option Value → T → Prop) (st : List Value) : vc xs zH_98 (n + 1) b d 98 114 ml st t Q = vga ml 0 (fun v => vc xs zH_98 n true d 98 115 ml (.ref v :: st) t Q) := by
  rw [vc_q (o := (2, 0, 0, 0, [])) (by decide +kernel)]; rfl
theorem v_98_115 (xs : Option (List Int32)) (n : Nat) (b : Bool) (d : Nat) (ml : List Value) (t : T) (Q : Option Value → T → Prop) (u : Nat) (r : List Value) : vc xs zH_98 (n + 1) b d 98 115 ml (.ref u :: r) t Q = (vtag u = 12 ∧ vc xs zH_98 n true d 98 118 ml (.ref (tref t u 23) :: r) t Q) := by
  rw [vc_q (o := (25, 0, 12, 23, [])) (by decide +kernel)]; rfl
theorem v_98_118 (xs : Option (List Int32)) (n : Nat) (b : Bool) (d : Nat) (ml : List Value) (t : T) (Q : Option Value → T → Prop) (st : List Value) : vc xs zH_98 (n + 1) b d 98 118 ml st t Q = vgi ml 4 (fun v => vc xs zH_98 n true d 98 120 ml (.int v :: st) t Q) := by
  rw [vc_q (o := (1, 0, 4, 1, [])) (by decide +kernel)]; rfl
theorem v_98_120 (xs : Option (List Int32)) (n : Nat) (b : Bool) (d : Nat) (ml : List Value) (t : T) (Q : Option Value → T → Prop) (v : Int32) (u : Nat) (r : List Value) : vc xs zH_98 (n + 1) b d 98 120 ml (.int v :: .ref u :: r) t Q = vc xs zH_98 n true d 98 121 ml (.int v :: .ref u :: .int v :: .ref u :: r) t Q := by
  rw [vc_q (o := (18, 0, 0, 0, [])) (by decide +kernel)]; rfl
theorem v_98_121 (xs : Option (List Int32)) (n : Nat) (b : Bool) (d : Nat) (ml : List Value) (t : T) (Q : Option Value → T → Prop) (v : Int32) (u : Nat) (r : List Value) : vc xs zH_98 (n + 1) b d 98 121 ml (.int v :: .ref u :: r) t Q = (vtag u = 100 ∧ vinb v (vlen u) ∧ vc xs zH_98 n true d 98 122 ml (.int (t.1 u v.toNatClampNeg) :: r) t Q) := by
  rw [vc_q (o := (29, 0, 0, 0, [])) (by decide +kernel)]; rfl
theorem v_98_122 (xs : Option (List Int32)) (n : Nat) (b : Bool) (d : Nat) (ml : List Value) (t : T) (Q : Option Value → T → Prop) (st : List Value) : vc xs zH_98 (n + 1) b d 98 122 ml st t Q = vc xs zH_98 n true d 98 123 ml (.int 1 :: st) t Q := by
  rw [vc_q (o := (0, 1, 0, 0, [])) (by decide +kernel)]; rfl
theorem v_98_123 (xs : Option (List Int32)) (n : Nat) (b : Bool) (d : Nat) (ml : List Value) (t : T) (Q : Option Value → T → Prop) (u v : Int32) (r : List Value) : vc xs zH_98 (n + 1) b d 98 123 ml (.int v :: .int u :: r) t Q = vc xs zH_98 n true d 98 124 ml (.int (u + v) :: r) t Q := by
  rw [vc_q (o := (6, 0, 0, 0, [])) (by decide +kernel)]; rfl
theorem v_98_124 (xs : Option (List Int32)) (n : Nat) (b : Bool) (d : Nat) (ml : List Value) (t : T) (Q : Option Value → T → Prop) (w v : Int32) (u : Nat) (r : List Value) : vc xs zH_98 (n + 1) b d 98 124 ml (.int w :: .int v :: .ref u :: r) t Q = (vtag u = 100 ∧ vinb v (vlen u) ∧ vc xs zH_98 n true d 98 125 ml r (tsi t u v.toNatClampNeg w) Q) := by
  rw [vc_q (o := (32, 0, 0, 0, [])) (by decide +kernel)]; rfl
theorem v_98_125 (xs : Option (List Int32)) (n : Nat) (b : Bool) (d : Nat) (ml : List Value) (t : T) (Q : Option Value → T → Prop) (st : List Value) : vc xs zH_98 (n + 1) b d 98 125 ml st t Q = vgi ml 5 (fun v => vset ml 5 (.int (v + 1)) (fun l => vc xs zH_98 n true d 98 128 l st t Q)) := by
  rw [vc_q (o := (5, 1, 5, 0, [])) (by decide +kernel)]; rfl
theorem v_98_128 (xs : Option (List Int32)) (n : Nat) (b : Bool) (d : Nat) (ml : List Value) (t : T) (Q : Option Value → T → Prop) (st : List Value) : vc xs zH_98 (n + 1) b d 98 128 ml st t Q = vc xs zH_98 n true d 98 18 ml st t Q := by
  rw [vc_q (o := (22, 0, 18, 0, [])) (by decide +kernel)]; rfl
theorem v_98_131 (xs : Option (List Int32)) (n : Nat) (b : Bool) (d : Nat) (ml : List Value) (t : T) (Q : Option Value → T → Prop) (st : List Value) : vc xs zH_98 (n + 1) b d 98 131 ml st t Q = vgi ml 3 (fun v => vc xs zH_98 n true d 98 132 ml (.int v :: st) t Q) := by
  rw [vc_q (o := (1, 0, 3, 0, [])) (by decide +kernel)]; rfl
theorem v_98_132 (xs : Option (List Int32)) (n : Nat) (b : Bool) (d : Nat) (ml : List Value) (t : T) (Q : Option Value → T → Prop) (u : Int32) (r : List Value) : vc xs zH_98 (n + 1) b d 98 132 ml (.int u :: r) t Q = (if u < 0 then vc xs zH_98 n true d 98 139 ml r t Q else vc xs zH_98 n true d 98 135 ml r t Q) := by
  rw [vc_q (o := (21, 0, 139, 2, [])) (by decide +kernel)]; rfl
theorem v_98_135 (xs : Option (List Int32)) (n : Nat) (b : Bool) (d : Nat) (ml : List Value) (t : T) (Q : Option Value → T → Prop) (st : List Value) : vc xs zH_98 (n + 1) b d 98 135 ml st t Q = vc xs zH_98 n true d 98 136 ml (.int 1 :: st) t Q := by
  rw [vc_q (o := (0, 1, 0, 0, [])) (by decide +kernel)]; rfl
theorem v_98_136 (xs : Option (List Int32)) (n : Nat) (b : Bool) (d : Nat) (ml : List Value) (t : T) (Q : Option Value → T → Prop) (st : List Value) : vc xs zH_98 (n + 1) b d 98 136 ml st t Q = vc xs zH_98 n true d 98 140 ml st t Q := by
  rw [vc_q (o := (22, 0, 140, 0, [])) (by decide +kernel)]; rfl
theorem v_98_139 (xs : Option (List Int32)) (n : Nat) (b : Bool) (d : Nat) (ml : List Value) (t : T) (Q : Option Value → T → Prop) (st : List Value) : vc xs zH_98 (n + 1) b d 98 139 ml st t Q = vc xs zH_98 n true d 98 140 ml (.int 0 :: st) t Q := by
  rw [vc_q (o := (0, 0, 0, 0, [])) (by decide +kernel)]; rfl
theorem v_98_140 (xs : Option (List Int32)) (n : Nat) (b : Bool) (d : Nat) (ml : List Value) (t : T) (Q : Option Value → T → Prop) (v : Int32) : vc xs zH_98 (n + 1) b d 98 140 ml [.int v] t Q = ((v = 0 ∨ v = 1) ∧ Q (some (.int v)) t) := by
  rw [vc_q (o := (41, 0, 0, 0, [])) (by decide +kernel)]; rfl
def zH_99 : List Nat := [2, 42]
theorem v_99_0 (xs : Option (List Int32)) (n : Nat) (b : Bool) (d : Nat) (ml : List Value) (t : T) (Q : Option Value → T → Prop) (st : List Value) : vc xs zH_99 (n + 1) b d 99 0 ml st t Q = vc xs zH_99 n true d 99 1 ml (.int 0 :: st) t Q := by
  rw [vc_q (o := (0, 0, 0, 0, [])) (by decide +kernel)]; rfl
theorem v_99_1 (xs : Option (List Int32)) (n : Nat) (b : Bool) (d : Nat) (ml : List Value) (t : T) (Q : Option Value → T → Prop) (v : Int32) (r : List Value) : vc xs zH_99 (n + 1) b d 99 1 ml (.int v :: r) t Q = vset ml 1 (.int v) (fun l => vc xs zH_99 n true d 99 2 l r t Q) := by
  rw [vc_q (o := (3, 0, 1, 0, [])) (by decide +kernel)]; rfl
theorem v_99_2 (xs : Option (List Int32)) (n : Nat) (d : Nat) (ml : List Value) (t : T) (Q : Option Value → T → Prop) (st : List Value) : vc xs zH_99 (n + 1) false d 99 2 ml st t Q = vgi ml 1 (fun v => vc xs zH_99 n true d 99 3 ml (.int v :: st) t Q) := by
  rw [vc_q (o := (1, 0, 1, 0, [])) (by decide +kernel)]; rfl
theorem h_99_2 (xs : Option (List Int32)) (n d : Nat) (ml st : List Value) (t : T) (Q : Option Value → T → Prop) : vc xs zH_99 (n + 1) true d 99 2 ml st t Q = twp xs d 99 2 ml st t Q := id rfl
theorem v_99_3 (xs : Option (List Int32)) (n : Nat) (b : Bool) (d : Nat) (ml : List Value) (t : T) (Q : Option Value → T → Prop) (st : List Value) : vc xs zH_99 (n + 1) b d 99 3 ml st t Q = vc xs zH_99 n true d 99 5 ml (.int 48 :: st) t Q := by
  rw [vc_q (o := (0, 48, 1, 0, [])) (by decide +kernel)]; rfl
theorem v_99_5 (xs : Option (List Int32)) (n : Nat) (b : Bool) (d : Nat) (ml : List Value) (t : T) (Q : Option Value → T → Prop) (u v : Int32) (r : List Value) : vc xs zH_99 (n + 1) b d 99 5 ml (.int v :: .int u :: r) t Q = (if u < v then vc xs zH_99 n true d 99 8 ml r t Q else vc xs zH_99 n true d 99 90 ml r t Q) := by
  rw [vc_q (o := (20, 0, 90, 3, [])) (by decide +kernel)]; rfl
theorem v_99_8 (xs : Option (List Int32)) (n : Nat) (b : Bool) (d : Nat) (ml : List Value) (t : T) (Q : Option Value → T → Prop) (st : List Value) : vc xs zH_99 (n + 1) b d 99 8 ml st t Q = vgi ml 1 (fun v => vc xs zH_99 n true d 99 9 ml (.int v :: st) t Q) := by
  rw [vc_q (o := (1, 0, 1, 0, [])) (by decide +kernel)]; rfl
theorem v_99_9 (xs : Option (List Int32)) (n : Nat) (b : Bool) (d : Nat) (ml : List Value) (t : T) (Q : Option Value → T → Prop) (st : List Value) : vc xs zH_99 (n + 1) b d 99 9 ml st t Q = vc xs zH_99 n true d 99 11 ml (.int 12 :: st) t Q := by
  rw [vc_q (o := (0, 12, 1, 0, [])) (by decide +kernel)]; rfl
theorem v_99_11 (xs : Option (List Int32)) (n : Nat) (b : Bool) (d : Nat) (ml : List Value) (t : T) (Q : Option Value → T → Prop) (u v : Int32) (r : List Value) : vc xs zH_99 (n + 1) b d 99 11 ml (.int v :: .int u :: r) t Q = (¬ v = 0 ∧ vc xs zH_99 n true d 99 12 ml (.int (u - u / v * v) :: r) t Q) := by
  rw [vc_q (o := (15, 0, 0, 0, [])) (by decide +kernel)]; rfl
theorem v_99_12 (xs : Option (List Int32)) (n : Nat) (b : Bool) (d : Nat) (ml : List Value) (t : T) (Q : Option Value → T → Prop) (st : List Value) : vc xs zH_99 (n + 1) b d 99 12 ml st t Q = vga ml 0 (fun v => vc xs zH_99 n true d 99 13 ml (.ref v :: st) t Q) := by
  rw [vc_q (o := (2, 0, 0, 0, [])) (by decide +kernel)]; rfl
theorem v_99_13 (xs : Option (List Int32)) (n : Nat) (b : Bool) (d : Nat) (ml : List Value) (t : T) (Q : Option Value → T → Prop) (u : Nat) (r : List Value) : vc xs zH_99 (n + 1) b d 99 13 ml (.ref u :: r) t Q = (vtag u = 12 ∧ vc xs zH_99 n true d 99 16 ml (.ref (tref t u 23) :: r) t Q) := by
  rw [vc_q (o := (25, 0, 12, 23, [])) (by decide +kernel)]; rfl
theorem v_99_16 (xs : Option (List Int32)) (n : Nat) (b : Bool) (d : Nat) (ml : List Value) (t : T) (Q : Option Value → T → Prop) (st : List Value) : vc xs zH_99 (n + 1) b d 99 16 ml st t Q = vgi ml 1 (fun v => vc xs zH_99 n true d 99 17 ml (.int v :: st) t Q) := by
  rw [vc_q (o := (1, 0, 1, 0, [])) (by decide +kernel)]; rfl
theorem v_99_17 (xs : Option (List Int32)) (n : Nat) (b : Bool) (d : Nat) (ml : List Value) (t : T) (Q : Option Value → T → Prop) (st : List Value) : vc xs zH_99 (n + 1) b d 99 17 ml st t Q = vc xs zH_99 n true d 99 19 ml (.int 12 :: st) t Q := by
  rw [vc_q (o := (0, 12, 1, 0, [])) (by decide +kernel)]; rfl
theorem v_99_19 (xs : Option (List Int32)) (n : Nat) (b : Bool) (d : Nat) (ml : List Value) (t : T) (Q : Option Value → T → Prop) (u v : Int32) (r : List Value) : vc xs zH_99 (n + 1) b d 99 19 ml (.int v :: .int u :: r) t Q = (¬ v = 0 ∧ vc xs zH_99 n true d 99 20 ml (.int (u / v) :: r) t Q) := by
  rw [vc_q (o := (14, 0, 0, 0, [])) (by decide +kernel)]; rfl
theorem v_99_20 (xs : Option (List Int32)) (n : Nat) (b : Bool) (d : Nat) (ml : List Value) (t : T) (Q : Option Value → T → Prop) (v : Int32) (u : Nat) (r : List Value) : vc xs zH_99 (n + 1) b d 99 20 ml (.int v :: .ref u :: r) t Q = (vtag u = 100 ∧ vinb v (vlen u) ∧ vc xs zH_99 n true d 99 21 ml (.int (t.1 u v.toNatClampNeg) :: r) t Q) := by
  rw [vc_q (o := (29, 0, 0, 0, [])) (by decide +kernel)]; rfl
theorem v_99_21 (xs : Option (List Int32)) (n : Nat) (b : Bool) (d : Nat) (ml : List Value) (t : T) (Q : Option Value → T → Prop) (u v : Int32) (r : List Value) : vc xs zH_99 (n + 1) b d 99 21 ml (.int v :: .int u :: r) t Q = (if u < v then vc xs zH_99 n true d 99 24 ml r t Q else vc xs zH_99 n true d 99 84 ml r t Q) := by
  rw [vc_q (o := (20, 0, 84, 3, [])) (by decide +kernel)]; rfl
theorem v_99_24 (xs : Option (List Int32)) (n : Nat) (b : Bool) (d : Nat) (ml : List Value) (t : T) (Q : Option Value → T → Prop) (st : List Value) : vc xs zH_99 (n + 1) b d 99 24 ml st t Q = vga ml 0 (fun v => vc xs zH_99 n true d 99 25 ml (.ref v :: st) t Q) := by
  rw [vc_q (o := (2, 0, 0, 0, [])) (by decide +kernel)]; rfl
theorem v_99_25 (xs : Option (List Int32)) (n : Nat) (b : Bool) (d : Nat) (ml : List Value) (t : T) (Q : Option Value → T → Prop) (u : Nat) (r : List Value) : vc xs zH_99 (n + 1) b d 99 25 ml (.ref u :: r) t Q = (vtag u = 12 ∧ vc xs zH_99 n true d 99 28 ml (.ref (tref t u 25) :: r) t Q) := by
  rw [vc_q (o := (25, 0, 12, 25, [])) (by decide +kernel)]; rfl
theorem v_99_28 (xs : Option (List Int32)) (n : Nat) (b : Bool) (d : Nat) (ml : List Value) (t : T) (Q : Option Value → T → Prop) (st : List Value) : vc xs zH_99 (n + 1) b d 99 28 ml st t Q = vgi ml 1 (fun v => vc xs zH_99 n true d 99 29 ml (.int v :: st) t Q) := by
  rw [vc_q (o := (1, 0, 1, 0, [])) (by decide +kernel)]; rfl
theorem v_99_29 (xs : Option (List Int32)) (n : Nat) (b : Bool) (d : Nat) (ml : List Value) (t : T) (Q : Option Value → T → Prop) (v : Int32) (u : Nat) (r : List Value) : vc xs zH_99 (n + 1) b d 99 29 ml (.int v :: .ref u :: r) t Q = ((vtag u = 101 ∨ vtag u = 102) ∧ vinb v (vlen u) ∧ vc xs zH_99 n true d 99 30 ml (.int (t.1 u v.toNatClampNeg) :: r) t Q) := by
  rw [vc_q (o := (30, 0, 0, 0, [])) (by decide +kernel)]; rfl
theorem v_99_30 (xs : Option (List Int32)) (n : Nat) (b : Bool) (d : Nat) (ml : List Value) (t : T) (Q : Option Value → T → Prop) (u : Int32) (r : List Value) : vc xs zH_99 (n + 1) b d 99 30 ml (.int u :: r) t Q = (if u = 0 then vc xs zH_99 n true d 99 33 ml r t Q else vc xs zH_99 n true d 99 84 ml r t Q) := by
  rw [vc_q (o := (21, 0, 84, 1, [])) (by decide +kernel)]; rfl
theorem v_99_33 (xs : Option (List Int32)) (n : Nat) (b : Bool) (d : Nat) (ml : List Value) (t : T) (Q : Option Value → T → Prop) (st : List Value) : vc xs zH_99 (n + 1) b d 99 33 ml st t Q = vga ml 0 (fun v => vc xs zH_99 n true d 99 34 ml (.ref v :: st) t Q) := by
  rw [vc_q (o := (2, 0, 0, 0, [])) (by decide +kernel)]; rfl
theorem v_99_34 (xs : Option (List Int32)) (n : Nat) (b : Bool) (d : Nat) (ml : List Value) (t : T) (Q : Option Value → T → Prop) (u : Nat) (r : List Value) : vc xs zH_99 (n + 1) b d 99 34 ml (.ref u :: r) t Q = (vtag u = 12 ∧ vc xs zH_99 n true d 99 37 ml (.ref (tref t u 25) :: r) t Q) := by
  rw [vc_q (o := (25, 0, 12, 25, [])) (by decide +kernel)]; rfl
theorem v_99_37 (xs : Option (List Int32)) (n : Nat) (b : Bool) (d : Nat) (ml : List Value) (t : T) (Q : Option Value → T → Prop) (st : List Value) : vc xs zH_99 (n + 1) b d 99 37 ml st t Q = vgi ml 1 (fun v => vc xs zH_99 n true d 99 38 ml (.int v :: st) t Q) := by
  rw [vc_q (o := (1, 0, 1, 0, [])) (by decide +kernel)]; rfl
theorem v_99_38 (xs : Option (List Int32)) (n : Nat) (b : Bool) (d : Nat) (ml : List Value) (t : T) (Q : Option Value → T → Prop) (st : List Value) : vc xs zH_99 (n + 1) b d 99 38 ml st t Q = vc xs zH_99 n true d 99 39 ml (.int 1 :: st) t Q := by
  rw [vc_q (o := (0, 1, 0, 0, [])) (by decide +kernel)]; rfl
theorem v_99_39 (xs : Option (List Int32)) (n : Nat) (b : Bool) (d : Nat) (ml : List Value) (t : T) (Q : Option Value → T → Prop) (w v : Int32) (u : Nat) (r : List Value) : vc xs zH_99 (n + 1) b d 99 39 ml (.int w :: .int v :: .ref u :: r) t Q = (vinb v (vlen u) ∧ if vtag u = 101 then vc xs zH_99 n true d 99 40 ml r (tsi t u v.toNatClampNeg w.toInt8.toInt32) Q else (vtag u = 102 ∧ (w = 0 ∨ w = 1) ∧ vc xs zH_99 n true d 99 40 ml r (tsi t u v.toNatClampNeg w) Q)) := by
  rw [vc_q (o := (33, 0, 0, 0, [])) (by decide +kernel)]; rfl
theorem v_99_40 (xs : Option (List Int32)) (n : Nat) (b : Bool) (d : Nat) (ml : List Value) (t : T) (Q : Option Value → T → Prop) (st : List Value) : vc xs zH_99 (n + 1) b d 99 40 ml st t Q = vc xs zH_99 n true d 99 41 ml (.int 0 :: st) t Q := by
  rw [vc_q (o := (0, 0, 0, 0, [])) (by decide +kernel)]; rfl
theorem v_99_41 (xs : Option (List Int32)) (n : Nat) (b : Bool) (d : Nat) (ml : List Value) (t : T) (Q : Option Value → T → Prop) (v : Int32) (r : List Value) : vc xs zH_99 (n + 1) b d 99 41 ml (.int v :: r) t Q = vset ml 2 (.int v) (fun l => vc xs zH_99 n true d 99 42 l r t Q) := by
  rw [vc_q (o := (3, 0, 2, 0, [])) (by decide +kernel)]; rfl
theorem v_99_42 (xs : Option (List Int32)) (n : Nat) (d : Nat) (ml : List Value) (t : T) (Q : Option Value → T → Prop) (st : List Value) : vc xs zH_99 (n + 1) false d 99 42 ml st t Q = vgi ml 2 (fun v => vc xs zH_99 n true d 99 43 ml (.int v :: st) t Q) := by
  rw [vc_q (o := (1, 0, 2, 0, [])) (by decide +kernel)]; rfl
theorem h_99_42 (xs : Option (List Int32)) (n d : Nat) (ml st : List Value) (t : T) (Q : Option Value → T → Prop) : vc xs zH_99 (n + 1) true d 99 42 ml st t Q = twp xs d 99 42 ml st t Q := id rfl
theorem v_99_43 (xs : Option (List Int32)) (n : Nat) (b : Bool) (d : Nat) (ml : List Value) (t : T) (Q : Option Value → T → Prop) (st : List Value) : vc xs zH_99 (n + 1) b d 99 43 ml st t Q = vga ml 0 (fun v => vc xs zH_99 n true d 99 44 ml (.ref v :: st) t Q) := by
  rw [vc_q (o := (2, 0, 0, 0, [])) (by decide +kernel)]; rfl
theorem v_99_44 (xs : Option (List Int32)) (n : Nat) (b : Bool) (d : Nat) (ml : List Value) (t : T) (Q : Option Value → T → Prop) (u : Nat) (r : List Value) : vc xs zH_99 (n + 1) b d 99 44 ml (.ref u :: r) t Q = (vtag u = 12 ∧ vc xs zH_99 n true d 99 47 ml (.int (t.1 u 14) :: r) t Q) := by
  rw [vc_q (o := (24, 0, 12, 14, [])) (by decide +kernel)]; rfl
theorem v_99_47 (xs : Option (List Int32)) (n : Nat) (b : Bool) (d : Nat) (ml : List Value) (t : T) (Q : Option Value → T → Prop) (u v : Int32) (r : List Value) : vc xs zH_99 (n + 1) b d 99 47 ml (.int v :: .int u :: r) t Q = (if u < v then vc xs zH_99 n true d 99 50 ml r t Q else vc xs zH_99 n true d 99 82 ml r t Q) := by
  rw [vc_q (o := (20, 0, 82, 3, [])) (by decide +kernel)]; rfl
theorem v_99_50 (xs : Option (List Int32)) (n : Nat) (b : Bool) (d : Nat) (ml : List Value) (t : T) (Q : Option Value → T → Prop) (st : List Value) : vc xs zH_99 (n + 1) b d 99 50 ml st t Q = vga ml 0 (fun v => vc xs zH_99 n true d 99 51 ml (.ref v :: st) t Q) := by
  rw [vc_q (o := (2, 0, 0, 0, [])) (by decide +kernel)]; rfl
theorem v_99_51 (xs : Option (List Int32)) (n : Nat) (b : Bool) (d : Nat) (ml : List Value) (t : T) (Q : Option Value → T → Prop) (u : Nat) (r : List Value) : vc xs zH_99 (n + 1) b d 99 51 ml (.ref u :: r) t Q = (vtag u = 12 ∧ vc xs zH_99 n true d 99 54 ml (.ref (tref t u 15) :: r) t Q) := by
  rw [vc_q (o := (25, 0, 12, 15, [])) (by decide +kernel)]; rfl
theorem v_99_54 (xs : Option (List Int32)) (n : Nat) (b : Bool) (d : Nat) (ml : List Value) (t : T) (Q : Option Value → T → Prop) (st : List Value) : vc xs zH_99 (n + 1) b d 99 54 ml st t Q = vgi ml 2 (fun v => vc xs zH_99 n true d 99 55 ml (.int v :: st) t Q) := by
  rw [vc_q (o := (1, 0, 2, 0, [])) (by decide +kernel)]; rfl
theorem v_99_55 (xs : Option (List Int32)) (n : Nat) (b : Bool) (d : Nat) (ml : List Value) (t : T) (Q : Option Value → T → Prop) (v : Int32) (u : Nat) (r : List Value) : vc xs zH_99 (n + 1) b d 99 55 ml (.int v :: .ref u :: r) t Q = (vtag u = 100 ∧ vinb v (vlen u) ∧ vc xs zH_99 n true d 99 56 ml (.int (t.1 u v.toNatClampNeg) :: r) t Q) := by
  rw [vc_q (o := (29, 0, 0, 0, [])) (by decide +kernel)]; rfl
theorem v_99_56 (xs : Option (List Int32)) (n : Nat) (b : Bool) (d : Nat) (ml : List Value) (t : T) (Q : Option Value → T → Prop) (st : List Value) : vc xs zH_99 (n + 1) b d 99 56 ml st t Q = vgi ml 1 (fun v => vc xs zH_99 n true d 99 57 ml (.int v :: st) t Q) := by
  rw [vc_q (o := (1, 0, 1, 0, [])) (by decide +kernel)]; rfl
theorem v_99_57 (xs : Option (List Int32)) (n : Nat) (b : Bool) (d : Nat) (ml : List Value) (t : T) (Q : Option Value → T → Prop) (st : List Value) : vc xs zH_99 (n + 1) b d 99 57 ml st t Q = vc xs zH_99 n true d 99 59 ml (.int 12 :: st) t Q := by
  rw [vc_q (o := (0, 12, 1, 0, [])) (by decide +kernel)]; rfl
theorem v_99_59 (xs : Option (List Int32)) (n : Nat) (b : Bool) (d : Nat) (ml : List Value) (t : T) (Q : Option Value → T → Prop) (u v : Int32) (r : List Value) : vc xs zH_99 (n + 1) b d 99 59 ml (.int v :: .int u :: r) t Q = (¬ v = 0 ∧ vc xs zH_99 n true d 99 60 ml (.int (u / v) :: r) t Q) := by
  rw [vc_q (o := (14, 0, 0, 0, [])) (by decide +kernel)]; rfl
theorem v_99_60 (xs : Option (List Int32)) (n : Nat) (b : Bool) (d : Nat) (ml : List Value) (t : T) (Q : Option Value → T → Prop) (u v : Int32) (r : List Value) : vc xs zH_99 (n + 1) b d 99 60 ml (.int v :: .int u :: r) t Q = (if u = v then vc xs zH_99 n true d 99 63 ml r t Q else vc xs zH_99 n true d 99 76 ml r t Q) := by
  rw [vc_q (o := (20, 0, 76, 1, [])) (by decide +kernel)]; rfl
theorem v_99_63 (xs : Option (List Int32)) (n : Nat) (b : Bool) (d : Nat) (ml : List Value) (t : T) (Q : Option Value → T → Prop) (st : List Value) : vc xs zH_99 (n + 1) b d 99 63 ml st t Q = vga ml 0 (fun v => vc xs zH_99 n true d 99 64 ml (.ref v :: st) t Q) := by
  rw [vc_q (o := (2, 0, 0, 0, [])) (by decide +kernel)]; rfl
theorem v_99_64 (xs : Option (List Int32)) (n : Nat) (b : Bool) (d : Nat) (ml : List Value) (t : T) (Q : Option Value → T → Prop) (st : List Value) : vc xs zH_99 (n + 1) b d 99 64 ml st t Q = vgi ml 2 (fun v => vc xs zH_99 n true d 99 65 ml (.int v :: st) t Q) := by
  rw [vc_q (o := (1, 0, 2, 0, [])) (by decide +kernel)]; rfl
theorem v_99_65 (xs : Option (List Int32)) (n : Nat) (b : Bool) (d : Nat) (ml : List Value) (t : T) (Q : Option Value → T → Prop) (st : List Value) : vc xs zH_99 (n + 1) b d 99 65 ml st t Q = vc xs zH_99 n true d 99 66 ml (.int 4 :: st) t Q := by
  rw [vc_q (o := (0, 4, 0, 0, [])) (by decide +kernel)]; rfl
theorem v_99_66 (xs : Option (List Int32)) (n : Nat) (b : Bool) (d : Nat) (ml : List Value) (t : T) (Q : Option Value → T → Prop) (st : List Value) : vc xs zH_99 (n + 1) b d 99 66 ml st t Q = vgi ml 1 (fun v => vc xs zH_99 n true d 99 67 ml (.int v :: st) t Q) := by
  rw [vc_q (o := (1, 0, 1, 0, [])) (by decide +kernel)]; rfl
theorem v_99_67 (xs : Option (List Int32)) (n : Nat) (b : Bool) (d : Nat) (ml : List Value) (t : T) (Q : Option Value → T → Prop) (u v : Int32) (r : List Value) : vc xs zH_99 (n + 1) b d 99 67 ml (.int v :: .int u :: r) t Q = vc xs zH_99 n true d 99 68 ml (.int (u + v) :: r) t Q := by
  rw [vc_q (o := (6, 0, 0, 0, [])) (by decide +kernel)]; rfl
theorem v_99_68 (xs : Option (List Int32)) (n : Nat) (b : Bool) (d : Nat) (ml : List Value) (t : T) (Q : Option Value → T → Prop) (st : List Value) : vc xs zH_99 (n + 1) b d 99 68 ml st t Q = (st.all zc1 = true ∧ vtk 3 st [] (fun as rest => rest.length ≤ 8 ∧ vrc as 12 (twc d 98 as t (fun r t' => vc xs zH_99 n true d 99 71 ml (r.toList ++ rest) t' Q)))) := by
  rw [vc_q (o := (36, 0, 98, 2, [(0, 12)])) (by decide +kernel)]; rfl
theorem v_99_71 (xs : Option (List Int32)) (n : Nat) (b : Bool) (d : Nat) (ml : List Value) (t : T) (Q : Option Value → T → Prop) (u : Int32) (r : List Value) : vc xs zH_99 (n + 1) b d 99 71 ml (.int u :: r) t Q = (if u = 0 then vc xs zH_99 n true d 99 74 ml r t Q else vc xs zH_99 n true d 99 76 ml r t Q) := by
  rw [vc_q (o := (21, 0, 76, 1, [])) (by decide +kernel)]; rfl
theorem v_99_74 (xs : Option (List Int32)) (n : Nat) (b : Bool) (d : Nat) (ml : List Value) (t : T) (Q : Option Value → T → Prop) (st : List Value) : vc xs zH_99 (n + 1) b d 99 74 ml st t Q = vc xs zH_99 n true d 99 75 ml (.int (-1) :: st) t Q := by
  rw [vc_q (o := (0, (-1), 0, 0, [])) (by decide +kernel)]; rfl
theorem v_99_75 (xs : Option (List Int32)) (n : Nat) (b : Bool) (d : Nat) (ml : List Value) (t : T) (Q : Option Value → T → Prop) (v : Int32) : vc xs zH_99 (n + 1) b d 99 75 ml [.int v] t Q = Q (some (.int v)) t := by
  rw [vc_q (o := (40, 0, 0, 0, [])) (by decide +kernel)]; rfl
theorem v_99_76 (xs : Option (List Int32)) (n : Nat) (b : Bool) (d : Nat) (ml : List Value) (t : T) (Q : Option Value → T → Prop) (st : List Value) : vc xs zH_99 (n + 1) b d 99 76 ml st t Q = vgi ml 2 (fun v => vset ml 2 (.int (v + 1)) (fun l => vc xs zH_99 n true d 99 79 l st t Q)) := by
  rw [vc_q (o := (5, 1, 2, 0, [])) (by decide +kernel)]; rfl
theorem v_99_79 (xs : Option (List Int32)) (n : Nat) (b : Bool) (d : Nat) (ml : List Value) (t : T) (Q : Option Value → T → Prop) (st : List Value) : vc xs zH_99 (n + 1) b d 99 79 ml st t Q = vc xs zH_99 n true d 99 42 ml st t Q := by
  rw [vc_q (o := (22, 0, 42, 0, [])) (by decide +kernel)]; rfl
theorem v_99_82 (xs : Option (List Int32)) (n : Nat) (b : Bool) (d : Nat) (ml : List Value) (t : T) (Q : Option Value → T → Prop) (st : List Value) : vc xs zH_99 (n + 1) b d 99 82 ml st t Q = vc xs zH_99 n true d 99 83 ml (.int 1 :: st) t Q := by
  rw [vc_q (o := (0, 1, 0, 0, [])) (by decide +kernel)]; rfl
theorem v_99_83 (xs : Option (List Int32)) (n : Nat) (b : Bool) (d : Nat) (ml : List Value) (t : T) (Q : Option Value → T → Prop) (v : Int32) : vc xs zH_99 (n + 1) b d 99 83 ml [.int v] t Q = Q (some (.int v)) t := by
  rw [vc_q (o := (40, 0, 0, 0, [])) (by decide +kernel)]; rfl
theorem v_99_84 (xs : Option (List Int32)) (n : Nat) (b : Bool) (d : Nat) (ml : List Value) (t : T) (Q : Option Value → T → Prop) (st : List Value) : vc xs zH_99 (n + 1) b d 99 84 ml st t Q = vgi ml 1 (fun v => vset ml 1 (.int (v + 1)) (fun l => vc xs zH_99 n true d 99 87 l st t Q)) := by
  rw [vc_q (o := (5, 1, 1, 0, [])) (by decide +kernel)]; rfl
theorem v_99_87 (xs : Option (List Int32)) (n : Nat) (b : Bool) (d : Nat) (ml : List Value) (t : T) (Q : Option Value → T → Prop) (st : List Value) : vc xs zH_99 (n + 1) b d 99 87 ml st t Q = vc xs zH_99 n true d 99 2 ml st t Q := by
  rw [vc_q (o := (22, 0, 2, 0, [])) (by decide +kernel)]; rfl
theorem v_99_90 (xs : Option (List Int32)) (n : Nat) (b : Bool) (d : Nat) (ml : List Value) (t : T) (Q : Option Value → T → Prop) (st : List Value) : vc xs zH_99 (n + 1) b d 99 90 ml st t Q = vc xs zH_99 n true d 99 91 ml (.int 0 :: st) t Q := by
  rw [vc_q (o := (0, 0, 0, 0, [])) (by decide +kernel)]; rfl
theorem v_99_91 (xs : Option (List Int32)) (n : Nat) (b : Bool) (d : Nat) (ml : List Value) (t : T) (Q : Option Value → T → Prop) (v : Int32) : vc xs zH_99 (n + 1) b d 99 91 ml [.int v] t Q = Q (some (.int v)) t := by
  rw [vc_q (o := (40, 0, 0, 0, [])) (by decide +kernel)]; rfl
def zH_100 : List Nat := [6, 27]
theorem v_100_0 (xs : Option (List Int32)) (n : Nat) (b : Bool) (d : Nat) (ml : List Value) (t : T) (Q : Option Value → T → Prop) (st : List Value) : vc xs zH_100 (n + 1) b d 100 0 ml st t Q = vga ml 0 (fun v => vc xs zH_100 n true d 100 1 ml (.ref v :: st) t Q) := by
  rw [vc_q (o := (2, 0, 0, 0, [])) (by decide +kernel)]; rfl
theorem v_100_1 (xs : Option (List Int32)) (n : Nat) (b : Bool) (d : Nat) (ml : List Value) (t : T) (Q : Option Value → T → Prop) (st : List Value) : vc xs zH_100 (n + 1) b d 100 1 ml st t Q = (st.all zc1 = true ∧ vtk 1 st [] (fun as rest => rest.length ≤ 8 ∧ vrc as 12 (twc d 95 as t (fun r t' => vc xs zH_100 n true d 100 4 ml (r.toList ++ rest) t' Q)))) := by
  rw [vc_q (o := (36, 0, 95, 0, [(0, 12)])) (by decide +kernel)]; rfl
theorem v_100_4 (xs : Option (List Int32)) (n : Nat) (b : Bool) (d : Nat) (ml : List Value) (t : T) (Q : Option Value → T → Prop) (st : List Value) : vc xs zH_100 (n + 1) b d 100 4 ml st t Q = vc xs zH_100 n true d 100 5 ml (.int 0 :: st) t Q := by
  rw [vc_q (o := (0, 0, 0, 0, [])) (by decide +kernel)]; rfl
theorem v_100_5 (xs : Option (List Int32)) (n : Nat) (b : Bool) (d : Nat) (ml : List Value) (t : T) (Q : Option Value → T → Prop) (v : Int32) (r : List Value) : vc xs zH_100 (n + 1) b d 100 5 ml (.int v :: r) t Q = vset ml 1 (.int v) (fun l => vc xs zH_100 n true d 100 6 l r t Q) := by
  rw [vc_q (o := (3, 0, 1, 0, [])) (by decide +kernel)]; rfl
theorem v_100_6 (xs : Option (List Int32)) (n : Nat) (d : Nat) (ml : List Value) (t : T) (Q : Option Value → T → Prop) (st : List Value) : vc xs zH_100 (n + 1) false d 100 6 ml st t Q = vgi ml 1 (fun v => vc xs zH_100 n true d 100 7 ml (.int v :: st) t Q) := by
  rw [vc_q (o := (1, 0, 1, 0, [])) (by decide +kernel)]; rfl
theorem h_100_6 (xs : Option (List Int32)) (n d : Nat) (ml st : List Value) (t : T) (Q : Option Value → T → Prop) : vc xs zH_100 (n + 1) true d 100 6 ml st t Q = twp xs d 100 6 ml st t Q := id rfl
theorem v_100_7 (xs : Option (List Int32)) (n : Nat) (b : Bool) (d : Nat) (ml : List Value) (t : T) (Q : Option Value → T → Prop) (st : List Value) : vc xs zH_100 (n + 1) b d 100 7 ml st t Q = vc xs zH_100 n true d 100 9 ml (.int 48 :: st) t Q := by
  rw [vc_q (o := (0, 48, 1, 0, [])) (by decide +kernel)]; rfl
theorem v_100_9 (xs : Option (List Int32)) (n : Nat) (b : Bool) (d : Nat) (ml : List Value) (t : T) (Q : Option Value → T → Prop) (u v : Int32) (r : List Value) : vc xs zH_100 (n + 1) b d 100 9 ml (.int v :: .int u :: r) t Q = (if u < v then vc xs zH_100 n true d 100 12 ml r t Q else vc xs zH_100 n true d 100 25 ml r t Q) := by
  rw [vc_q (o := (20, 0, 25, 3, [])) (by decide +kernel)]; rfl
theorem v_100_12 (xs : Option (List Int32)) (n : Nat) (b : Bool) (d : Nat) (ml : List Value) (t : T) (Q : Option Value → T → Prop) (st : List Value) : vc xs zH_100 (n + 1) b d 100 12 ml st t Q = vga ml 0 (fun v => vc xs zH_100 n true d 100 13 ml (.ref v :: st) t Q) := by
  rw [vc_q (o := (2, 0, 0, 0, [])) (by decide +kernel)]; rfl
theorem v_100_13 (xs : Option (List Int32)) (n : Nat) (b : Bool) (d : Nat) (ml : List Value) (t : T) (Q : Option Value → T → Prop) (u : Nat) (r : List Value) : vc xs zH_100 (n + 1) b d 100 13 ml (.ref u :: r) t Q = (vtag u = 12 ∧ vc xs zH_100 n true d 100 16 ml (.ref (tref t u 25) :: r) t Q) := by
  rw [vc_q (o := (25, 0, 12, 25, [])) (by decide +kernel)]; rfl
theorem v_100_16 (xs : Option (List Int32)) (n : Nat) (b : Bool) (d : Nat) (ml : List Value) (t : T) (Q : Option Value → T → Prop) (st : List Value) : vc xs zH_100 (n + 1) b d 100 16 ml st t Q = vgi ml 1 (fun v => vc xs zH_100 n true d 100 17 ml (.int v :: st) t Q) := by
  rw [vc_q (o := (1, 0, 1, 0, [])) (by decide +kernel)]; rfl
theorem v_100_17 (xs : Option (List Int32)) (n : Nat) (b : Bool) (d : Nat) (ml : List Value) (t : T) (Q : Option Value → T → Prop) (st : List Value) : vc xs zH_100 (n + 1) b d 100 17 ml st t Q = vc xs zH_100 n true d 100 18 ml (.int 0 :: st) t Q := by
  rw [vc_q (o := (0, 0, 0, 0, [])) (by decide +kernel)]; rfl
theorem v_100_18 (xs : Option (List Int32)) (n : Nat) (b : Bool) (d : Nat) (ml : List Value) (t : T) (Q : Option Value → T → Prop) (w v : Int32) (u : Nat) (r : List Value) : vc xs zH_100 (n + 1) b d 100 18 ml (.int w :: .int v :: .ref u :: r) t Q = (vinb v (vlen u) ∧ if vtag u = 101 then vc xs zH_100 n true d 100 19 ml r (tsi t u v.toNatClampNeg w.toInt8.toInt32) Q else (vtag u = 102 ∧ (w = 0 ∨ w = 1) ∧ vc xs zH_100 n true d 100 19 ml r (tsi t u v.toNatClampNeg w) Q)) := by
  rw [vc_q (o := (33, 0, 0, 0, [])) (by decide +kernel)]; rfl
theorem v_100_19 (xs : Option (List Int32)) (n : Nat) (b : Bool) (d : Nat) (ml : List Value) (t : T) (Q : Option Value → T → Prop) (st : List Value) : vc xs zH_100 (n + 1) b d 100 19 ml st t Q = vgi ml 1 (fun v => vset ml 1 (.int (v + 1)) (fun l => vc xs zH_100 n true d 100 22 l st t Q)) := by
  rw [vc_q (o := (5, 1, 1, 0, [])) (by decide +kernel)]; rfl
theorem v_100_22 (xs : Option (List Int32)) (n : Nat) (b : Bool) (d : Nat) (ml : List Value) (t : T) (Q : Option Value → T → Prop) (st : List Value) : vc xs zH_100 (n + 1) b d 100 22 ml st t Q = vc xs zH_100 n true d 100 6 ml st t Q := by
  rw [vc_q (o := (22, 0, 6, 0, [])) (by decide +kernel)]; rfl
theorem v_100_25 (xs : Option (List Int32)) (n : Nat) (b : Bool) (d : Nat) (ml : List Value) (t : T) (Q : Option Value → T → Prop) (st : List Value) : vc xs zH_100 (n + 1) b d 100 25 ml st t Q = vc xs zH_100 n true d 100 26 ml (.int 1 :: st) t Q := by
  rw [vc_q (o := (0, 1, 0, 0, [])) (by decide +kernel)]; rfl
theorem v_100_26 (xs : Option (List Int32)) (n : Nat) (b : Bool) (d : Nat) (ml : List Value) (t : T) (Q : Option Value → T → Prop) (v : Int32) (r : List Value) : vc xs zH_100 (n + 1) b d 100 26 ml (.int v :: r) t Q = vset ml 1 (.int v) (fun l => vc xs zH_100 n true d 100 27 l r t Q) := by
  rw [vc_q (o := (3, 0, 1, 0, [])) (by decide +kernel)]; rfl
theorem v_100_27 (xs : Option (List Int32)) (n : Nat) (d : Nat) (ml : List Value) (t : T) (Q : Option Value → T → Prop) (st : List Value) : vc xs zH_100 (n + 1) false d 100 27 ml st t Q = vgi ml 1 (fun v => vc xs zH_100 n true d 100 28 ml (.int v :: st) t Q) := by
  rw [vc_q (o := (1, 0, 1, 0, [])) (by decide +kernel)]; rfl
theorem h_100_27 (xs : Option (List Int32)) (n d : Nat) (ml st : List Value) (t : T) (Q : Option Value → T → Prop) : vc xs zH_100 (n + 1) true d 100 27 ml st t Q = twp xs d 100 27 ml st t Q := id rfl
theorem v_100_28 (xs : Option (List Int32)) (n : Nat) (b : Bool) (d : Nat) (ml : List Value) (t : T) (Q : Option Value → T → Prop) (u : Int32) (r : List Value) : vc xs zH_100 (n + 1) b d 100 28 ml (.int u :: r) t Q = (if 0 < u then vc xs zH_100 n true d 100 31 ml r t Q else vc xs zH_100 n true d 100 39 ml r t Q) := by
  rw [vc_q (o := (21, 0, 39, 5, [])) (by decide +kernel)]; rfl
theorem v_100_31 (xs : Option (List Int32)) (n : Nat) (b : Bool) (d : Nat) (ml : List Value) (t : T) (Q : Option Value → T → Prop) (st : List Value) : vc xs zH_100 (n + 1) b d 100 31 ml st t Q = vga ml 0 (fun v => vc xs zH_100 n true d 100 32 ml (.ref v :: st) t Q) := by
  rw [vc_q (o := (2, 0, 0, 0, [])) (by decide +kernel)]; rfl
theorem v_100_32 (xs : Option (List Int32)) (n : Nat) (b : Bool) (d : Nat) (ml : List Value) (t : T) (Q : Option Value → T → Prop) (st : List Value) : vc xs zH_100 (n + 1) b d 100 32 ml st t Q = (st.all zc1 = true ∧ vtk 1 st [] (fun as rest => rest.length ≤ 8 ∧ vrc as 12 (twc d 99 as t (fun r t' => vc xs zH_100 n true d 100 35 ml (r.toList ++ rest) t' Q)))) := by
  rw [vc_q (o := (36, 0, 99, 0, [(0, 12)])) (by decide +kernel)]; rfl
theorem v_100_35 (xs : Option (List Int32)) (n : Nat) (b : Bool) (d : Nat) (ml : List Value) (t : T) (Q : Option Value → T → Prop) (v : Int32) (r : List Value) : vc xs zH_100 (n + 1) b d 100 35 ml (.int v :: r) t Q = vset ml 1 (.int v) (fun l => vc xs zH_100 n true d 100 36 l r t Q) := by
  rw [vc_q (o := (3, 0, 1, 0, [])) (by decide +kernel)]; rfl
theorem v_100_36 (xs : Option (List Int32)) (n : Nat) (b : Bool) (d : Nat) (ml : List Value) (t : T) (Q : Option Value → T → Prop) (st : List Value) : vc xs zH_100 (n + 1) b d 100 36 ml st t Q = vc xs zH_100 n true d 100 27 ml st t Q := by
  rw [vc_q (o := (22, 0, 27, 0, [])) (by decide +kernel)]; rfl
theorem v_100_39 (xs : Option (List Int32)) (n : Nat) (b : Bool) (d : Nat) (ml : List Value) (t : T) (Q : Option Value → T → Prop) (st : List Value) : vc xs zH_100 (n + 1) b d 100 39 ml st t Q = vgi ml 1 (fun v => vc xs zH_100 n true d 100 40 ml (.int v :: st) t Q) := by
  rw [vc_q (o := (1, 0, 1, 0, [])) (by decide +kernel)]; rfl
theorem v_100_40 (xs : Option (List Int32)) (n : Nat) (b : Bool) (d : Nat) (ml : List Value) (t : T) (Q : Option Value → T → Prop) (u : Int32) (r : List Value) : vc xs zH_100 (n + 1) b d 100 40 ml (.int u :: r) t Q = (if u < 0 then vc xs zH_100 n true d 100 43 ml r t Q else vc xs zH_100 n true d 100 47 ml r t Q) := by
  rw [vc_q (o := (21, 0, 47, 3, [])) (by decide +kernel)]; rfl
theorem v_100_43 (xs : Option (List Int32)) (n : Nat) (b : Bool) (d : Nat) (ml : List Value) (t : T) (Q : Option Value → T → Prop) (st : List Value) : vc xs zH_100 (n + 1) b d 100 43 ml st t Q = vga ml 0 (fun v => vc xs zH_100 n true d 100 44 ml (.ref v :: st) t Q) := by
  rw [vc_q (o := (2, 0, 0, 0, [])) (by decide +kernel)]; rfl
theorem v_100_44 (xs : Option (List Int32)) (n : Nat) (b : Bool) (d : Nat) (ml : List Value) (t : T) (Q : Option Value → T → Prop) (st : List Value) : vc xs zH_100 (n + 1) b d 100 44 ml st t Q = (st.all zc1 = true ∧ vtk 1 st [] (fun as rest => rest.length ≤ 8 ∧ vrc as 12 (twc d 95 as t (fun r t' => vc xs zH_100 n true d 100 47 ml (r.toList ++ rest) t' Q)))) := by
  rw [vc_q (o := (36, 0, 95, 0, [(0, 12)])) (by decide +kernel)]; rfl
theorem v_100_47 (xs : Option (List Int32)) (n : Nat) (b : Bool) (d : Nat) (ml : List Value) (t : T) (Q : Option Value → T → Prop) (st : List Value) : vc xs zH_100 (n + 1) b d 100 47 ml st t Q = vga ml 0 (fun v => vc xs zH_100 n true d 100 48 ml (.ref v :: st) t Q) := by
  rw [vc_q (o := (2, 0, 0, 0, [])) (by decide +kernel)]; rfl
theorem v_100_48 (xs : Option (List Int32)) (n : Nat) (b : Bool) (d : Nat) (ml : List Value) (t : T) (Q : Option Value → T → Prop) (st : List Value) : vc xs zH_100 (n + 1) b d 100 48 ml st t Q = (st.all zc1 = true ∧ vtk 1 st [] (fun as rest => rest.length ≤ 8 ∧ vrc as 12 (twc d 96 as t (fun r t' => vc xs zH_100 n true d 100 51 ml (r.toList ++ rest) t' Q)))) := by
  rw [vc_q (o := (36, 0, 96, 0, [(0, 12)])) (by decide +kernel)]; rfl
theorem v_100_51 (xs : Option (List Int32)) (n : Nat) (b : Bool) (d : Nat) (ml : List Value) (t : T) (Q : Option Value → T → Prop) (v : Int32) (r : List Value) : vc xs zH_100 (n + 1) b d 100 51 ml (.int v :: r) t Q = vset ml 2 (.int v) (fun l => vc xs zH_100 n true d 100 52 l r t Q) := by
  rw [vc_q (o := (3, 0, 2, 0, [])) (by decide +kernel)]; rfl
theorem v_100_52 (xs : Option (List Int32)) (n : Nat) (b : Bool) (d : Nat) (ml : List Value) (t : T) (Q : Option Value → T → Prop) (st : List Value) : vc xs zH_100 (n + 1) b d 100 52 ml st t Q = vgi ml 1 (fun v => vc xs zH_100 n true d 100 53 ml (.int v :: st) t Q) := by
  rw [vc_q (o := (1, 0, 1, 0, [])) (by decide +kernel)]; rfl
theorem v_100_53 (xs : Option (List Int32)) (n : Nat) (b : Bool) (d : Nat) (ml : List Value) (t : T) (Q : Option Value → T → Prop) (u : Int32) (r : List Value) : vc xs zH_100 (n + 1) b d 100 53 ml (.int u :: r) t Q = (if u < 0 then vc xs zH_100 n true d 100 56 ml r t Q else vc xs zH_100 n true d 100 61 ml r t Q) := by
  rw [vc_q (o := (21, 0, 61, 3, [])) (by decide +kernel)]; rfl
theorem v_100_56 (xs : Option (List Int32)) (n : Nat) (b : Bool) (d : Nat) (ml : List Value) (t : T) (Q : Option Value → T → Prop) (st : List Value) : vc xs zH_100 (n + 1) b d 100 56 ml st t Q = vc xs zH_100 n true d 100 58 ml (.int (-3) :: st) t Q := by
  rw [vc_q (o := (0, (-3), 1, 0, [])) (by decide +kernel)]; rfl
theorem v_100_58 (xs : Option (List Int32)) (n : Nat) (b : Bool) (d : Nat) (ml : List Value) (t : T) (Q : Option Value → T → Prop) (st : List Value) : vc xs zH_100 (n + 1) b d 100 58 ml st t Q = vc xs zH_100 n true d 100 62 ml st t Q := by
  rw [vc_q (o := (22, 0, 62, 0, [])) (by decide +kernel)]; rfl
theorem v_100_61 (xs : Option (List Int32)) (n : Nat) (b : Bool) (d : Nat) (ml : List Value) (t : T) (Q : Option Value → T → Prop) (st : List Value) : vc xs zH_100 (n + 1) b d 100 61 ml st t Q = vgi ml 2 (fun v => vc xs zH_100 n true d 100 62 ml (.int v :: st) t Q) := by
  rw [vc_q (o := (1, 0, 2, 0, [])) (by decide +kernel)]; rfl
theorem v_100_62 (xs : Option (List Int32)) (n : Nat) (b : Bool) (d : Nat) (ml : List Value) (t : T) (Q : Option Value → T → Prop) (v : Int32) : vc xs zH_100 (n + 1) b d 100 62 ml [.int v] t Q = Q (some (.int v)) t := by
  rw [vc_q (o := (40, 0, 0, 0, [])) (by decide +kernel)]; rfl
def zH_101 : List Nat := []
theorem v_101_0 (xs : Option (List Int32)) (n : Nat) (b : Bool) (d : Nat) (ml : List Value) (t : T) (Q : Option Value → T → Prop) (st : List Value) : vc xs zH_101 (n + 1) b d 101 0 ml st t Q = vgi ml 1 (fun v => vc xs zH_101 n true d 101 1 ml (.int v :: st) t Q) := by
  rw [vc_q (o := (1, 0, 1, 0, [])) (by decide +kernel)]; rfl
theorem v_101_1 (xs : Option (List Int32)) (n : Nat) (b : Bool) (d : Nat) (ml : List Value) (t : T) (Q : Option Value → T → Prop) (st : List Value) : vc xs zH_101 (n + 1) b d 101 1 ml st t Q = (st.all zc1 = true ∧ vtk 1 st [] (fun as rest => rest.length ≤ 8 ∧ twc d 93 as t (fun r t' => vc xs zH_101 n true d 101 4 ml (r.toList ++ rest) t' Q))) := by
  rw [vc_q (o := (37, 0, 93, 1, [])) (by decide +kernel)]; rfl
theorem v_101_4 (xs : Option (List Int32)) (n : Nat) (b : Bool) (d : Nat) (ml : List Value) (t : T) (Q : Option Value → T → Prop) (u : Int32) (r : List Value) : vc xs zH_101 (n + 1) b d 101 4 ml (.int u :: r) t Q = (if u = 0 then vc xs zH_101 n true d 101 16 ml r t Q else vc xs zH_101 n true d 101 7 ml r t Q) := by
  rw [vc_q (o := (21, 0, 16, 0, [])) (by decide +kernel)]; rfl
theorem v_101_7 (xs : Option (List Int32)) (n : Nat) (b : Bool) (d : Nat) (ml : List Value) (t : T) (Q : Option Value → T → Prop) (st : List Value) : vc xs zH_101 (n + 1) b d 101 7 ml st t Q = vga ml 0 (fun v => vc xs zH_101 n true d 101 8 ml (.ref v :: st) t Q) := by
  rw [vc_q (o := (2, 0, 0, 0, [])) (by decide +kernel)]; rfl
theorem v_101_8 (xs : Option (List Int32)) (n : Nat) (b : Bool) (d : Nat) (ml : List Value) (t : T) (Q : Option Value → T → Prop) (u : Nat) (r : List Value) : vc xs zH_101 (n + 1) b d 101 8 ml (.ref u :: r) t Q = (vtag u = 12 ∧ vc xs zH_101 n true d 101 11 ml (.ref (tref t u 23) :: r) t Q) := by
  rw [vc_q (o := (25, 0, 12, 23, [])) (by decide +kernel)]; rfl
theorem v_101_11 (xs : Option (List Int32)) (n : Nat) (b : Bool) (d : Nat) (ml : List Value) (t : T) (Q : Option Value → T → Prop) (st : List Value) : vc xs zH_101 (n + 1) b d 101 11 ml st t Q = vgi ml 1 (fun v => vc xs zH_101 n true d 101 12 ml (.int v :: st) t Q) := by
  rw [vc_q (o := (1, 0, 1, 0, [])) (by decide +kernel)]; rfl
theorem v_101_12 (xs : Option (List Int32)) (n : Nat) (b : Bool) (d : Nat) (ml : List Value) (t : T) (Q : Option Value → T → Prop) (v : Int32) (u : Nat) (r : List Value) : vc xs zH_101 (n + 1) b d 101 12 ml (.int v :: .ref u :: r) t Q = (vtag u = 100 ∧ vinb v (vlen u) ∧ vc xs zH_101 n true d 101 13 ml (.int (t.1 u v.toNatClampNeg) :: r) t Q) := by
  rw [vc_q (o := (29, 0, 0, 0, [])) (by decide +kernel)]; rfl
theorem v_101_13 (xs : Option (List Int32)) (n : Nat) (b : Bool) (d : Nat) (ml : List Value) (t : T) (Q : Option Value → T → Prop) (st : List Value) : vc xs zH_101 (n + 1) b d 101 13 ml st t Q = vc xs zH_101 n true d 101 17 ml st t Q := by
  rw [vc_q (o := (22, 0, 17, 0, [])) (by decide +kernel)]; rfl
theorem v_101_16 (xs : Option (List Int32)) (n : Nat) (b : Bool) (d : Nat) (ml : List Value) (t : T) (Q : Option Value → T → Prop) (st : List Value) : vc xs zH_101 (n + 1) b d 101 16 ml st t Q = vc xs zH_101 n true d 101 17 ml (.int (-1) :: st) t Q := by
  rw [vc_q (o := (0, (-1), 0, 0, [])) (by decide +kernel)]; rfl
theorem v_101_17 (xs : Option (List Int32)) (n : Nat) (b : Bool) (d : Nat) (ml : List Value) (t : T) (Q : Option Value → T → Prop) (v : Int32) : vc xs zH_101 (n + 1) b d 101 17 ml [.int v] t Q = Q (some (.int v)) t := by
  rw [vc_q (o := (40, 0, 0, 0, [])) (by decide +kernel)]; rfl
def zH_102 : List Nat := []
theorem v_102_0 (xs : Option (List Int32)) (n : Nat) (b : Bool) (d : Nat) (ml : List Value) (t : T) (Q : Option Value → T → Prop) (st : List Value) : vc xs zH_102 (n + 1) b d 102 0 ml st t Q = vgi ml 1 (fun v => vc xs zH_102 n true d 102 1 ml (.int v :: st) t Q) := by
  rw [vc_q (o := (1, 0, 1, 0, [])) (by decide +kernel)]; rfl
theorem v_102_1 (xs : Option (List Int32)) (n : Nat) (b : Bool) (d : Nat) (ml : List Value) (t : T) (Q : Option Value → T → Prop) (st : List Value) : vc xs zH_102 (n + 1) b d 102 1 ml st t Q = (st.all zc1 = true ∧ vtk 1 st [] (fun as rest => rest.length ≤ 8 ∧ twc d 93 as t (fun r t' => vc xs zH_102 n true d 102 4 ml (r.toList ++ rest) t' Q))) := by
  rw [vc_q (o := (37, 0, 93, 1, [])) (by decide +kernel)]; rfl
theorem v_102_4 (xs : Option (List Int32)) (n : Nat) (b : Bool) (d : Nat) (ml : List Value) (t : T) (Q : Option Value → T → Prop) (u : Int32) (r : List Value) : vc xs zH_102 (n + 1) b d 102 4 ml (.int u :: r) t Q = (if u = 0 then vc xs zH_102 n true d 102 28 ml r t Q else vc xs zH_102 n true d 102 7 ml r t Q) := by
  rw [vc_q (o := (21, 0, 28, 0, [])) (by decide +kernel)]; rfl
theorem v_102_7 (xs : Option (List Int32)) (n : Nat) (b : Bool) (d : Nat) (ml : List Value) (t : T) (Q : Option Value → T → Prop) (st : List Value) : vc xs zH_102 (n + 1) b d 102 7 ml st t Q = vgi ml 2 (fun v => vc xs zH_102 n true d 102 8 ml (.int v :: st) t Q) := by
  rw [vc_q (o := (1, 0, 2, 0, [])) (by decide +kernel)]; rfl
theorem v_102_8 (xs : Option (List Int32)) (n : Nat) (b : Bool) (d : Nat) (ml : List Value) (t : T) (Q : Option Value → T → Prop) (u : Int32) (r : List Value) : vc xs zH_102 (n + 1) b d 102 8 ml (.int u :: r) t Q = (if u < 0 then vc xs zH_102 n true d 102 28 ml r t Q else vc xs zH_102 n true d 102 11 ml r t Q) := by
  rw [vc_q (o := (21, 0, 28, 2, [])) (by decide +kernel)]; rfl
theorem v_102_11 (xs : Option (List Int32)) (n : Nat) (b : Bool) (d : Nat) (ml : List Value) (t : T) (Q : Option Value → T → Prop) (st : List Value) : vc xs zH_102 (n + 1) b d 102 11 ml st t Q = vgi ml 2 (fun v => vc xs zH_102 n true d 102 12 ml (.int v :: st) t Q) := by
  rw [vc_q (o := (1, 0, 2, 0, [])) (by decide +kernel)]; rfl
theorem v_102_12 (xs : Option (List Int32)) (n : Nat) (b : Bool) (d : Nat) (ml : List Value) (t : T) (Q : Option Value → T → Prop) (st : List Value) : vc xs zH_102 (n + 1) b d 102 12 ml st t Q = vga ml 0 (fun v => vc xs zH_102 n true d 102 13 ml (.ref v :: st) t Q) := by
  rw [vc_q (o := (2, 0, 0, 0, [])) (by decide +kernel)]; rfl
theorem v_102_13 (xs : Option (List Int32)) (n : Nat) (b : Bool) (d : Nat) (ml : List Value) (t : T) (Q : Option Value → T → Prop) (u : Nat) (r : List Value) : vc xs zH_102 (n + 1) b d 102 13 ml (.ref u :: r) t Q = (vtag u = 12 ∧ vc xs zH_102 n true d 102 16 ml (.ref (tref t u 23) :: r) t Q) := by
  rw [vc_q (o := (25, 0, 12, 23, [])) (by decide +kernel)]; rfl
theorem v_102_16 (xs : Option (List Int32)) (n : Nat) (b : Bool) (d : Nat) (ml : List Value) (t : T) (Q : Option Value → T → Prop) (st : List Value) : vc xs zH_102 (n + 1) b d 102 16 ml st t Q = vgi ml 1 (fun v => vc xs zH_102 n true d 102 17 ml (.int v :: st) t Q) := by
  rw [vc_q (o := (1, 0, 1, 0, [])) (by decide +kernel)]; rfl
theorem v_102_17 (xs : Option (List Int32)) (n : Nat) (b : Bool) (d : Nat) (ml : List Value) (t : T) (Q : Option Value → T → Prop) (v : Int32) (u : Nat) (r : List Value) : vc xs zH_102 (n + 1) b d 102 17 ml (.int v :: .ref u :: r) t Q = (vtag u = 100 ∧ vinb v (vlen u) ∧ vc xs zH_102 n true d 102 18 ml (.int (t.1 u v.toNatClampNeg) :: r) t Q) := by
  rw [vc_q (o := (29, 0, 0, 0, [])) (by decide +kernel)]; rfl
theorem v_102_18 (xs : Option (List Int32)) (n : Nat) (b : Bool) (d : Nat) (ml : List Value) (t : T) (Q : Option Value → T → Prop) (u v : Int32) (r : List Value) : vc xs zH_102 (n + 1) b d 102 18 ml (.int v :: .int u :: r) t Q = (if u < v then vc xs zH_102 n true d 102 21 ml r t Q else vc xs zH_102 n true d 102 28 ml r t Q) := by
  rw [vc_q (o := (20, 0, 28, 3, [])) (by decide +kernel)]; rfl
theorem v_102_21 (xs : Option (List Int32)) (n : Nat) (b : Bool) (d : Nat) (ml : List Value) (t : T) (Q : Option Value → T → Prop) (st : List Value) : vc xs zH_102 (n + 1) b d 102 21 ml st t Q = vgi ml 3 (fun v => vc xs zH_102 n true d 102 22 ml (.int v :: st) t Q) := by
  rw [vc_q (o := (1, 0, 3, 0, [])) (by decide +kernel)]; rfl
theorem v_102_22 (xs : Option (List Int32)) (n : Nat) (b : Bool) (d : Nat) (ml : List Value) (t : T) (Q : Option Value → T → Prop) (st : List Value) : vc xs zH_102 (n + 1) b d 102 22 ml st t Q = (st.all zc1 = true ∧ vtk 1 st [] (fun as rest => rest.length ≤ 8 ∧ twc d 47 as t (fun r t' => vc xs zH_102 n true d 102 25 ml (r.toList ++ rest) t' Q))) := by
  rw [vc_q (o := (37, 0, 47, 1, [])) (by decide +kernel)]; rfl
theorem v_102_25 (xs : Option (List Int32)) (n : Nat) (b : Bool) (d : Nat) (ml : List Value) (t : T) (Q : Option Value → T → Prop) (u : Int32) (r : List Value) : vc xs zH_102 (n + 1) b d 102 25 ml (.int u :: r) t Q = (if u = 0 then vc xs zH_102 n true d 102 28 ml r t Q else vc xs zH_102 n true d 102 30 ml r t Q) := by
  rw [vc_q (o := (21, 0, 30, 1, [])) (by decide +kernel)]; rfl
theorem v_102_28 (xs : Option (List Int32)) (n : Nat) (b : Bool) (d : Nat) (ml : List Value) (t : T) (Q : Option Value → T → Prop) (st : List Value) : vc xs zH_102 (n + 1) b d 102 28 ml st t Q = vc xs zH_102 n true d 102 29 ml (.int 0 :: st) t Q := by
  rw [vc_q (o := (0, 0, 0, 0, [])) (by decide +kernel)]; rfl
theorem v_102_29 (xs : Option (List Int32)) (n : Nat) (b : Bool) (d : Nat) (ml : List Value) (t : T) (Q : Option Value → T → Prop) (v : Int32) : vc xs zH_102 (n + 1) b d 102 29 ml [.int v] t Q = ((v = 0 ∨ v = 1) ∧ Q (some (.int v)) t) := by
  rw [vc_q (o := (41, 0, 0, 0, [])) (by decide +kernel)]; rfl
theorem v_102_30 (xs : Option (List Int32)) (n : Nat) (b : Bool) (d : Nat) (ml : List Value) (t : T) (Q : Option Value → T → Prop) (st : List Value) : vc xs zH_102 (n + 1) b d 102 30 ml st t Q = vga ml 0 (fun v => vc xs zH_102 n true d 102 31 ml (.ref v :: st) t Q) := by
  rw [vc_q (o := (2, 0, 0, 0, [])) (by decide +kernel)]; rfl
theorem v_102_31 (xs : Option (List Int32)) (n : Nat) (b : Bool) (d : Nat) (ml : List Value) (t : T) (Q : Option Value → T → Prop) (st : List Value) : vc xs zH_102 (n + 1) b d 102 31 ml st t Q = vc xs zH_102 n true d 102 32 ml (.int 4 :: st) t Q := by
  rw [vc_q (o := (0, 4, 0, 0, [])) (by decide +kernel)]; rfl
theorem v_102_32 (xs : Option (List Int32)) (n : Nat) (b : Bool) (d : Nat) (ml : List Value) (t : T) (Q : Option Value → T → Prop) (st : List Value) : vc xs zH_102 (n + 1) b d 102 32 ml st t Q = vc xs zH_102 n true d 102 34 ml (.int 12 :: st) t Q := by
  rw [vc_q (o := (0, 12, 1, 0, [])) (by decide +kernel)]; rfl
theorem v_102_34 (xs : Option (List Int32)) (n : Nat) (b : Bool) (d : Nat) (ml : List Value) (t : T) (Q : Option Value → T → Prop) (st : List Value) : vc xs zH_102 (n + 1) b d 102 34 ml st t Q = vgi ml 1 (fun v => vc xs zH_102 n true d 102 35 ml (.int v :: st) t Q) := by
  rw [vc_q (o := (1, 0, 1, 0, [])) (by decide +kernel)]; rfl
theorem v_102_35 (xs : Option (List Int32)) (n : Nat) (b : Bool) (d : Nat) (ml : List Value) (t : T) (Q : Option Value → T → Prop) (u v : Int32) (r : List Value) : vc xs zH_102 (n + 1) b d 102 35 ml (.int v :: .int u :: r) t Q = vc xs zH_102 n true d 102 36 ml (.int (u * v) :: r) t Q := by
  rw [vc_q (o := (8, 0, 0, 0, [])) (by decide +kernel)]; rfl
theorem v_102_36 (xs : Option (List Int32)) (n : Nat) (b : Bool) (d : Nat) (ml : List Value) (t : T) (Q : Option Value → T → Prop) (u v : Int32) (r : List Value) : vc xs zH_102 (n + 1) b d 102 36 ml (.int v :: .int u :: r) t Q = vc xs zH_102 n true d 102 37 ml (.int (u + v) :: r) t Q := by
  rw [vc_q (o := (6, 0, 0, 0, [])) (by decide +kernel)]; rfl
theorem v_102_37 (xs : Option (List Int32)) (n : Nat) (b : Bool) (d : Nat) (ml : List Value) (t : T) (Q : Option Value → T → Prop) (st : List Value) : vc xs zH_102 (n + 1) b d 102 37 ml st t Q = vgi ml 2 (fun v => vc xs zH_102 n true d 102 38 ml (.int v :: st) t Q) := by
  rw [vc_q (o := (1, 0, 2, 0, [])) (by decide +kernel)]; rfl
theorem v_102_38 (xs : Option (List Int32)) (n : Nat) (b : Bool) (d : Nat) (ml : List Value) (t : T) (Q : Option Value → T → Prop) (u v : Int32) (r : List Value) : vc xs zH_102 (n + 1) b d 102 38 ml (.int v :: .int u :: r) t Q = vc xs zH_102 n true d 102 39 ml (.int (u + v) :: r) t Q := by
  rw [vc_q (o := (6, 0, 0, 0, [])) (by decide +kernel)]; rfl
theorem v_102_39 (xs : Option (List Int32)) (n : Nat) (b : Bool) (d : Nat) (ml : List Value) (t : T) (Q : Option Value → T → Prop) (st : List Value) : vc xs zH_102 (n + 1) b d 102 39 ml st t Q = vgi ml 3 (fun v => vc xs zH_102 n true d 102 40 ml (.int v :: st) t Q) := by
  rw [vc_q (o := (1, 0, 3, 0, [])) (by decide +kernel)]; rfl
theorem v_102_40 (xs : Option (List Int32)) (n : Nat) (b : Bool) (d : Nat) (ml : List Value) (t : T) (Q : Option Value → T → Prop) (st : List Value) : vc xs zH_102 (n + 1) b d 102 40 ml st t Q = (st.all zc1 = true ∧ vtk 3 st [] (fun as rest => rest.length ≤ 8 ∧ vrc as 12 (twc d 44 as t (fun r t' => vc xs zH_102 n true d 102 43 ml (r.toList ++ rest) t' Q)))) := by
  rw [vc_q (o := (36, 0, 44, 2, [(0, 12)])) (by decide +kernel)]; rfl
theorem v_102_43 (xs : Option (List Int32)) (n : Nat) (b : Bool) (d : Nat) (ml : List Value) (t : T) (Q : Option Value → T → Prop) (st : List Value) : vc xs zH_102 (n + 1) b d 102 43 ml st t Q = vc xs zH_102 n true d 102 44 ml (.int 1 :: st) t Q := by
  rw [vc_q (o := (0, 1, 0, 0, [])) (by decide +kernel)]; rfl
theorem v_102_44 (xs : Option (List Int32)) (n : Nat) (b : Bool) (d : Nat) (ml : List Value) (t : T) (Q : Option Value → T → Prop) (v : Int32) : vc xs zH_102 (n + 1) b d 102 44 ml [.int v] t Q = ((v = 0 ∨ v = 1) ∧ Q (some (.int v)) t) := by
  rw [vc_q (o := (41, 0, 0, 0, [])) (by decide +kernel)]; rfl
def zH_103 : List Nat := [40]
theorem v_103_0 (xs : Option (List Int32)) (n : Nat) (b : Bool) (d : Nat) (ml : List Value) (t : T) (Q : Option Value → T → Prop) (st : List Value) : vc xs zH_103 (n + 1) b d 103 0 ml st t Q = vgi ml 1 (fun v => vc xs zH_103 n true d 103 1 ml (.int v :: st) t Q) := by
  rw [vc_q (o := (1, 0, 1, 0, [])) (by decide +kernel)]; rfl
theorem v_103_1 (xs : Option (List Int32)) (n : Nat) (b : Bool) (d : Nat) (ml : List Value) (t : T) (Q : Option Value → T → Prop) (st : List Value) : vc xs zH_103 (n + 1) b d 103 1 ml st t Q = (st.all zc1 = true ∧ vtk 1 st [] (fun as rest => rest.length ≤ 8 ∧ twc d 93 as t (fun r t' => vc xs zH_103 n true d 103 4 ml (r.toList ++ rest) t' Q))) := by
  rw [vc_q (o := (37, 0, 93, 1, [])) (by decide +kernel)]; rfl
theorem v_103_4 (xs : Option (List Int32)) (n : Nat) (b : Bool) (d : Nat) (ml : List Value) (t : T) (Q : Option Value → T → Prop) (u : Int32) (r : List Value) : vc xs zH_103 (n + 1) b d 103 4 ml (.int u :: r) t Q = (if u = 0 then vc xs zH_103 n true d 103 33 ml r t Q else vc xs zH_103 n true d 103 7 ml r t Q) := by
  rw [vc_q (o := (21, 0, 33, 0, [])) (by decide +kernel)]; rfl
theorem v_103_7 (xs : Option (List Int32)) (n : Nat) (b : Bool) (d : Nat) (ml : List Value) (t : T) (Q : Option Value → T → Prop) (st : List Value) : vc xs zH_103 (n + 1) b d 103 7 ml st t Q = vga ml 0 (fun v => vc xs zH_103 n true d 103 8 ml (.ref v :: st) t Q) := by
  rw [vc_q (o := (2, 0, 0, 0, [])) (by decide +kernel)]; rfl
theorem v_103_8 (xs : Option (List Int32)) (n : Nat) (b : Bool) (d : Nat) (ml : List Value) (t : T) (Q : Option Value → T → Prop) (st : List Value) : vc xs zH_103 (n + 1) b d 103 8 ml st t Q = vgi ml 2 (fun v => vc xs zH_103 n true d 103 9 ml (.int v :: st) t Q) := by
  rw [vc_q (o := (1, 0, 2, 0, [])) (by decide +kernel)]; rfl
theorem v_103_9 (xs : Option (List Int32)) (n : Nat) (b : Bool) (d : Nat) (ml : List Value) (t : T) (Q : Option Value → T → Prop) (st : List Value) : vc xs zH_103 (n + 1) b d 103 9 ml st t Q = (st.all zc1 = true ∧ vtk 2 st [] (fun as rest => rest.length ≤ 8 ∧ vrc as 12 (twc d 55 as t (fun r t' => vc xs zH_103 n true d 103 12 ml (r.toList ++ rest) t' Q)))) := by
  rw [vc_q (o := (36, 0, 55, 1, [(0, 12)])) (by decide +kernel)]; rfl
theorem v_103_12 (xs : Option (List Int32)) (n : Nat) (b : Bool) (d : Nat) (ml : List Value) (t : T) (Q : Option Value → T → Prop) (u : Int32) (r : List Value) : vc xs zH_103 (n + 1) b d 103 12 ml (.int u :: r) t Q = (if u = 0 then vc xs zH_103 n true d 103 33 ml r t Q else vc xs zH_103 n true d 103 15 ml r t Q) := by
  rw [vc_q (o := (21, 0, 33, 0, [])) (by decide +kernel)]; rfl
theorem v_103_15 (xs : Option (List Int32)) (n : Nat) (b : Bool) (d : Nat) (ml : List Value) (t : T) (Q : Option Value → T → Prop) (st : List Value) : vc xs zH_103 (n + 1) b d 103 15 ml st t Q = vga ml 0 (fun v => vc xs zH_103 n true d 103 16 ml (.ref v :: st) t Q) := by
  rw [vc_q (o := (2, 0, 0, 0, [])) (by decide +kernel)]; rfl
theorem v_103_16 (xs : Option (List Int32)) (n : Nat) (b : Bool) (d : Nat) (ml : List Value) (t : T) (Q : Option Value → T → Prop) (u : Nat) (r : List Value) : vc xs zH_103 (n + 1) b d 103 16 ml (.ref u :: r) t Q = (vtag u = 12 ∧ vc xs zH_103 n true d 103 19 ml (.ref (tref t u 8) :: r) t Q) := by
  rw [vc_q (o := (25, 0, 12, 8, [])) (by decide +kernel)]; rfl
theorem v_103_19 (xs : Option (List Int32)) (n : Nat) (b : Bool) (d : Nat) (ml : List Value) (t : T) (Q : Option Value → T → Prop) (st : List Value) : vc xs zH_103 (n + 1) b d 103 19 ml st t Q = vgi ml 2 (fun v => vc xs zH_103 n true d 103 20 ml (.int v :: st) t Q) := by
  rw [vc_q (o := (1, 0, 2, 0, [])) (by decide +kernel)]; rfl
theorem v_103_20 (xs : Option (List Int32)) (n : Nat) (b : Bool) (d : Nat) (ml : List Value) (t : T) (Q : Option Value → T → Prop) (v : Int32) (u : Nat) (r : List Value) : vc xs zH_103 (n + 1) b d 103 20 ml (.int v :: .ref u :: r) t Q = (vtag u = 100 ∧ vinb v (vlen u) ∧ vc xs zH_103 n true d 103 21 ml (.int (t.1 u v.toNatClampNeg) :: r) t Q) := by
  rw [vc_q (o := (29, 0, 0, 0, [])) (by decide +kernel)]; rfl
theorem v_103_21 (xs : Option (List Int32)) (n : Nat) (b : Bool) (d : Nat) (ml : List Value) (t : T) (Q : Option Value → T → Prop) (u : Int32) (r : List Value) : vc xs zH_103 (n + 1) b d 103 21 ml (.int u :: r) t Q = (if u = 0 then vc xs zH_103 n true d 103 24 ml r t Q else vc xs zH_103 n true d 103 33 ml r t Q) := by
  rw [vc_q (o := (21, 0, 33, 1, [])) (by decide +kernel)]; rfl
theorem v_103_24 (xs : Option (List Int32)) (n : Nat) (b : Bool) (d : Nat) (ml : List Value) (t : T) (Q : Option Value → T → Prop) (st : List Value) : vc xs zH_103 (n + 1) b d 103 24 ml st t Q = vga ml 0 (fun v => vc xs zH_103 n true d 103 25 ml (.ref v :: st) t Q) := by
  rw [vc_q (o := (2, 0, 0, 0, [])) (by decide +kernel)]; rfl
theorem v_103_25 (xs : Option (List Int32)) (n : Nat) (b : Bool) (d : Nat) (ml : List Value) (t : T) (Q : Option Value → T → Prop) (u : Nat) (r : List Value) : vc xs zH_103 (n + 1) b d 103 25 ml (.ref u :: r) t Q = (vtag u = 12 ∧ vc xs zH_103 n true d 103 28 ml (.ref (tref t u 23) :: r) t Q) := by
  rw [vc_q (o := (25, 0, 12, 23, [])) (by decide +kernel)]; rfl
theorem v_103_28 (xs : Option (List Int32)) (n : Nat) (b : Bool) (d : Nat) (ml : List Value) (t : T) (Q : Option Value → T → Prop) (st : List Value) : vc xs zH_103 (n + 1) b d 103 28 ml st t Q = vgi ml 1 (fun v => vc xs zH_103 n true d 103 29 ml (.int v :: st) t Q) := by
  rw [vc_q (o := (1, 0, 1, 0, [])) (by decide +kernel)]; rfl
theorem v_103_29 (xs : Option (List Int32)) (n : Nat) (b : Bool) (d : Nat) (ml : List Value) (t : T) (Q : Option Value → T → Prop) (v : Int32) (u : Nat) (r : List Value) : vc xs zH_103 (n + 1) b d 103 29 ml (.int v :: .ref u :: r) t Q = (vtag u = 100 ∧ vinb v (vlen u) ∧ vc xs zH_103 n true d 103 30 ml (.int (t.1 u v.toNatClampNeg) :: r) t Q) := by
  rw [vc_q (o := (29, 0, 0, 0, [])) (by decide +kernel)]; rfl
theorem v_103_30 (xs : Option (List Int32)) (n : Nat) (b : Bool) (d : Nat) (ml : List Value) (t : T) (Q : Option Value → T → Prop) (u : Int32) (r : List Value) : vc xs zH_103 (n + 1) b d 103 30 ml (.int u :: r) t Q = (if u = 0 then vc xs zH_103 n true d 103 33 ml r t Q else vc xs zH_103 n true d 103 35 ml r t Q) := by
  rw [vc_q (o := (21, 0, 35, 1, [])) (by decide +kernel)]; rfl
theorem v_103_33 (xs : Option (List Int32)) (n : Nat) (b : Bool) (d : Nat) (ml : List Value) (t : T) (Q : Option Value → T → Prop) (st : List Value) : vc xs zH_103 (n + 1) b d 103 33 ml st t Q = vc xs zH_103 n true d 103 34 ml (.int (-1) :: st) t Q := by
  rw [vc_q (o := (0, (-1), 0, 0, [])) (by decide +kernel)]; rfl
theorem v_103_34 (xs : Option (List Int32)) (n : Nat) (b : Bool) (d : Nat) (ml : List Value) (t : T) (Q : Option Value → T → Prop) (v : Int32) : vc xs zH_103 (n + 1) b d 103 34 ml [.int v] t Q = Q (some (.int v)) t := by
  rw [vc_q (o := (40, 0, 0, 0, [])) (by decide +kernel)]; rfl
theorem v_103_35 (xs : Option (List Int32)) (n : Nat) (b : Bool) (d : Nat) (ml : List Value) (t : T) (Q : Option Value → T → Prop) (st : List Value) : vc xs zH_103 (n + 1) b d 103 35 ml st t Q = vc xs zH_103 n true d 103 36 ml (.int (-1) :: st) t Q := by
  rw [vc_q (o := (0, (-1), 0, 0, [])) (by decide +kernel)]; rfl
theorem v_103_36 (xs : Option (List Int32)) (n : Nat) (b : Bool) (d : Nat) (ml : List Value) (t : T) (Q : Option Value → T → Prop) (v : Int32) (r : List Value) : vc xs zH_103 (n + 1) b d 103 36 ml (.int v :: r) t Q = vset ml 3 (.int v) (fun l => vc xs zH_103 n true d 103 37 l r t Q) := by
  rw [vc_q (o := (3, 0, 3, 0, [])) (by decide +kernel)]; rfl
theorem v_103_37 (xs : Option (List Int32)) (n : Nat) (b : Bool) (d : Nat) (ml : List Value) (t : T) (Q : Option Value → T → Prop) (st : List Value) : vc xs zH_103 (n + 1) b d 103 37 ml st t Q = vc xs zH_103 n true d 103 38 ml (.int 0 :: st) t Q := by
  rw [vc_q (o := (0, 0, 0, 0, [])) (by decide +kernel)]; rfl
theorem v_103_38 (xs : Option (List Int32)) (n : Nat) (b : Bool) (d : Nat) (ml : List Value) (t : T) (Q : Option Value → T → Prop) (v : Int32) (r : List Value) : vc xs zH_103 (n + 1) b d 103 38 ml (.int v :: r) t Q = vset ml 4 (.int v) (fun l => vc xs zH_103 n true d 103 40 l r t Q) := by
  rw [vc_q (o := (3, 0, 4, 1, [])) (by decide +kernel)]; rfl
theorem v_103_40 (xs : Option (List Int32)) (n : Nat) (d : Nat) (ml : List Value) (t : T) (Q : Option Value → T → Prop) (st : List Value) : vc xs zH_103 (n + 1) false d 103 40 ml st t Q = vgi ml 4 (fun v => vc xs zH_103 n true d 103 42 ml (.int v :: st) t Q) := by
  rw [vc_q (o := (1, 0, 4, 1, [])) (by decide +kernel)]; rfl
theorem h_103_40 (xs : Option (List Int32)) (n d : Nat) (ml st : List Value) (t : T) (Q : Option Value → T → Prop) : vc xs zH_103 (n + 1) true d 103 40 ml st t Q = twp xs d 103 40 ml st t Q := id rfl
theorem v_103_42 (xs : Option (List Int32)) (n : Nat) (b : Bool) (d : Nat) (ml : List Value) (t : T) (Q : Option Value → T → Prop) (st : List Value) : vc xs zH_103 (n + 1) b d 103 42 ml st t Q = vga ml 0 (fun v => vc xs zH_103 n true d 103 43 ml (.ref v :: st) t Q) := by
  rw [vc_q (o := (2, 0, 0, 0, [])) (by decide +kernel)]; rfl
theorem v_103_43 (xs : Option (List Int32)) (n : Nat) (b : Bool) (d : Nat) (ml : List Value) (t : T) (Q : Option Value → T → Prop) (u : Nat) (r : List Value) : vc xs zH_103 (n + 1) b d 103 43 ml (.ref u :: r) t Q = (vtag u = 12 ∧ vc xs zH_103 n true d 103 46 ml (.ref (tref t u 23) :: r) t Q) := by
  rw [vc_q (o := (25, 0, 12, 23, [])) (by decide +kernel)]; rfl
theorem v_103_46 (xs : Option (List Int32)) (n : Nat) (b : Bool) (d : Nat) (ml : List Value) (t : T) (Q : Option Value → T → Prop) (st : List Value) : vc xs zH_103 (n + 1) b d 103 46 ml st t Q = vgi ml 1 (fun v => vc xs zH_103 n true d 103 47 ml (.int v :: st) t Q) := by
  rw [vc_q (o := (1, 0, 1, 0, [])) (by decide +kernel)]; rfl
theorem v_103_47 (xs : Option (List Int32)) (n : Nat) (b : Bool) (d : Nat) (ml : List Value) (t : T) (Q : Option Value → T → Prop) (v : Int32) (u : Nat) (r : List Value) : vc xs zH_103 (n + 1) b d 103 47 ml (.int v :: .ref u :: r) t Q = (vtag u = 100 ∧ vinb v (vlen u) ∧ vc xs zH_103 n true d 103 48 ml (.int (t.1 u v.toNatClampNeg) :: r) t Q) := by
  rw [vc_q (o := (29, 0, 0, 0, [])) (by decide +kernel)]; rfl
theorem v_103_48 (xs : Option (List Int32)) (n : Nat) (b : Bool) (d : Nat) (ml : List Value) (t : T) (Q : Option Value → T → Prop) (u v : Int32) (r : List Value) : vc xs zH_103 (n + 1) b d 103 48 ml (.int v :: .int u :: r) t Q = (if u < v then vc xs zH_103 n true d 103 51 ml r t Q else vc xs zH_103 n true d 103 91 ml r t Q) := by
  rw [vc_q (o := (20, 0, 91, 3, [])) (by decide +kernel)]; rfl
theorem v_103_51 (xs : Option (List Int32)) (n : Nat) (b : Bool) (d : Nat) (ml : List Value) (t : T) (Q : Option Value → T → Prop) (st : List Value) : vc xs zH_103 (n + 1) b d 103 51 ml st t Q = vga ml 0 (fun v => vc xs zH_103 n true d 103 52 ml (.ref v :: st) t Q) := by
  rw [vc_q (o := (2, 0, 0, 0, [])) (by decide +kernel)]; rfl
theorem v_103_52 (xs : Option (List Int32)) (n : Nat) (b : Bool) (d : Nat) (ml : List Value) (t : T) (Q : Option Value → T → Prop) (st : List Value) : vc xs zH_103 (n + 1) b d 103 52 ml st t Q = vc xs zH_103 n true d 103 53 ml (.int 4 :: st) t Q := by
  rw [vc_q (o := (0, 4, 0, 0, [])) (by decide +kernel)]; rfl
theorem v_103_53 (xs : Option (List Int32)) (n : Nat) (b : Bool) (d : Nat) (ml : List Value) (t : T) (Q : Option Value → T → Prop) (st : List Value) : vc xs zH_103 (n + 1) b d 103 53 ml st t Q = vc xs zH_103 n true d 103 55 ml (.int 12 :: st) t Q := by
  rw [vc_q (o := (0, 12, 1, 0, [])) (by decide +kernel)]; rfl
theorem v_103_55 (xs : Option (List Int32)) (n : Nat) (b : Bool) (d : Nat) (ml : List Value) (t : T) (Q : Option Value → T → Prop) (st : List Value) : vc xs zH_103 (n + 1) b d 103 55 ml st t Q = vgi ml 1 (fun v => vc xs zH_103 n true d 103 56 ml (.int v :: st) t Q) := by
  rw [vc_q (o := (1, 0, 1, 0, [])) (by decide +kernel)]; rfl
theorem v_103_56 (xs : Option (List Int32)) (n : Nat) (b : Bool) (d : Nat) (ml : List Value) (t : T) (Q : Option Value → T → Prop) (u v : Int32) (r : List Value) : vc xs zH_103 (n + 1) b d 103 56 ml (.int v :: .int u :: r) t Q = vc xs zH_103 n true d 103 57 ml (.int (u * v) :: r) t Q := by
  rw [vc_q (o := (8, 0, 0, 0, [])) (by decide +kernel)]; rfl
theorem v_103_57 (xs : Option (List Int32)) (n : Nat) (b : Bool) (d : Nat) (ml : List Value) (t : T) (Q : Option Value → T → Prop) (u v : Int32) (r : List Value) : vc xs zH_103 (n + 1) b d 103 57 ml (.int v :: .int u :: r) t Q = vc xs zH_103 n true d 103 58 ml (.int (u + v) :: r) t Q := by
  rw [vc_q (o := (6, 0, 0, 0, [])) (by decide +kernel)]; rfl
theorem v_103_58 (xs : Option (List Int32)) (n : Nat) (b : Bool) (d : Nat) (ml : List Value) (t : T) (Q : Option Value → T → Prop) (st : List Value) : vc xs zH_103 (n + 1) b d 103 58 ml st t Q = vgi ml 4 (fun v => vc xs zH_103 n true d 103 60 ml (.int v :: st) t Q) := by
  rw [vc_q (o := (1, 0, 4, 1, [])) (by decide +kernel)]; rfl
theorem v_103_60 (xs : Option (List Int32)) (n : Nat) (b : Bool) (d : Nat) (ml : List Value) (t : T) (Q : Option Value → T → Prop) (u v : Int32) (r : List Value) : vc xs zH_103 (n + 1) b d 103 60 ml (.int v :: .int u :: r) t Q = vc xs zH_103 n true d 103 61 ml (.int (u + v) :: r) t Q := by
  rw [vc_q (o := (6, 0, 0, 0, [])) (by decide +kernel)]; rfl
theorem v_103_61 (xs : Option (List Int32)) (n : Nat) (b : Bool) (d : Nat) (ml : List Value) (t : T) (Q : Option Value → T → Prop) (st : List Value) : vc xs zH_103 (n + 1) b d 103 61 ml st t Q = vgi ml 2 (fun v => vc xs zH_103 n true d 103 62 ml (.int v :: st) t Q) := by
  rw [vc_q (o := (1, 0, 2, 0, [])) (by decide +kernel)]; rfl
theorem v_103_62 (xs : Option (List Int32)) (n : Nat) (b : Bool) (d : Nat) (ml : List Value) (t : T) (Q : Option Value → T → Prop) (st : List Value) : vc xs zH_103 (n + 1) b d 103 62 ml st t Q = vc xs zH_103 n true d 103 63 ml (.int 0 :: st) t Q := by
  rw [vc_q (o := (0, 0, 0, 0, [])) (by decide +kernel)]; rfl
theorem v_103_63 (xs : Option (List Int32)) (n : Nat) (b : Bool) (d : Nat) (ml : List Value) (t : T) (Q : Option Value → T → Prop) (st : List Value) : vc xs zH_103 (n + 1) b d 103 63 ml st t Q = vc xs zH_103 n true d 103 64 ml (.int 0 :: st) t Q := by
  rw [vc_q (o := (0, 0, 0, 0, [])) (by decide +kernel)]; rfl
theorem v_103_64 (xs : Option (List Int32)) (n : Nat) (b : Bool) (d : Nat) (ml : List Value) (t : T) (Q : Option Value → T → Prop) (st : List Value) : vc xs zH_103 (n + 1) b d 103 64 ml st t Q = (st.all zc1 = true ∧ vtk 5 st [] (fun as rest => rest.length ≤ 8 ∧ vrc as 12 (twc d 68 as t (fun r t' => vc xs zH_103 n true d 103 67 ml (r.toList ++ rest) t' Q)))) := by
  rw [vc_q (o := (36, 0, 68, 4, [(0, 12)])) (by decide +kernel)]; rfl
theorem v_103_67 (xs : Option (List Int32)) (n : Nat) (b : Bool) (d : Nat) (ml : List Value) (t : T) (Q : Option Value → T → Prop) (v : Int32) (r : List Value) : vc xs zH_103 (n + 1) b d 103 67 ml (.int v :: r) t Q = vset ml 5 (.int v) (fun l => vc xs zH_103 n true d 103 69 l r t Q) := by
  rw [vc_q (o := (3, 0, 5, 1, [])) (by decide +kernel)]; rfl
theorem v_103_69 (xs : Option (List Int32)) (n : Nat) (b : Bool) (d : Nat) (ml : List Value) (t : T) (Q : Option Value → T → Prop) (st : List Value) : vc xs zH_103 (n + 1) b d 103 69 ml st t Q = vgi ml 3 (fun v => vc xs zH_103 n true d 103 70 ml (.int v :: st) t Q) := by
  rw [vc_q (o := (1, 0, 3, 0, [])) (by decide +kernel)]; rfl
theorem v_103_70 (xs : Option (List Int32)) (n : Nat) (b : Bool) (d : Nat) (ml : List Value) (t : T) (Q : Option Value → T → Prop) (u : Int32) (r : List Value) : vc xs zH_103 (n + 1) b d 103 70 ml (.int u :: r) t Q = (if u < 0 then vc xs zH_103 n true d 103 73 ml r t Q else vc xs zH_103 n true d 103 78 ml r t Q) := by
  rw [vc_q (o := (21, 0, 78, 3, [])) (by decide +kernel)]; rfl
theorem v_103_73 (xs : Option (List Int32)) (n : Nat) (b : Bool) (d : Nat) (ml : List Value) (t : T) (Q : Option Value → T → Prop) (st : List Value) : vc xs zH_103 (n + 1) b d 103 73 ml st t Q = vgi ml 5 (fun v => vc xs zH_103 n true d 103 75 ml (.int v :: st) t Q) := by
  rw [vc_q (o := (1, 0, 5, 1, [])) (by decide +kernel)]; rfl
theorem v_103_75 (xs : Option (List Int32)) (n : Nat) (b : Bool) (d : Nat) (ml : List Value) (t : T) (Q : Option Value → T → Prop) (st : List Value) : vc xs zH_103 (n + 1) b d 103 75 ml st t Q = vc xs zH_103 n true d 103 84 ml st t Q := by
  rw [vc_q (o := (22, 0, 84, 0, [])) (by decide +kernel)]; rfl
theorem v_103_78 (xs : Option (List Int32)) (n : Nat) (b : Bool) (d : Nat) (ml : List Value) (t : T) (Q : Option Value → T → Prop) (st : List Value) : vc xs zH_103 (n + 1) b d 103 78 ml st t Q = vgi ml 3 (fun v => vc xs zH_103 n true d 103 79 ml (.int v :: st) t Q) := by
  rw [vc_q (o := (1, 0, 3, 0, [])) (by decide +kernel)]; rfl
theorem v_103_79 (xs : Option (List Int32)) (n : Nat) (b : Bool) (d : Nat) (ml : List Value) (t : T) (Q : Option Value → T → Prop) (st : List Value) : vc xs zH_103 (n + 1) b d 103 79 ml st t Q = vgi ml 5 (fun v => vc xs zH_103 n true d 103 81 ml (.int v :: st) t Q) := by
  rw [vc_q (o := (1, 0, 5, 1, [])) (by decide +kernel)]; rfl
theorem v_103_81 (xs : Option (List Int32)) (n : Nat) (b : Bool) (d : Nat) (ml : List Value) (t : T) (Q : Option Value → T → Prop) (st : List Value) : vc xs zH_103 (n + 1) b d 103 81 ml st t Q = (st.all zc1 = true ∧ vtk 2 st [] (fun as rest => rest.length ≤ 8 ∧ twc d 70 as t (fun r t' => vc xs zH_103 n true d 103 84 ml (r.toList ++ rest) t' Q))) := by
  rw [vc_q (o := (37, 0, 70, 2, [])) (by decide +kernel)]; rfl
theorem v_103_84 (xs : Option (List Int32)) (n : Nat) (b : Bool) (d : Nat) (ml : List Value) (t : T) (Q : Option Value → T → Prop) (v : Int32) (r : List Value) : vc xs zH_103 (n + 1) b d 103 84 ml (.int v :: r) t Q = vset ml 3 (.int v) (fun l => vc xs zH_103 n true d 103 85 l r t Q) := by
  rw [vc_q (o := (3, 0, 3, 0, [])) (by decide +kernel)]; rfl
theorem v_103_85 (xs : Option (List Int32)) (n : Nat) (b : Bool) (d : Nat) (ml : List Value) (t : T) (Q : Option Value → T → Prop) (st : List Value) : vc xs zH_103 (n + 1) b d 103 85 ml st t Q = vgi ml 4 (fun v => vset ml 4 (.int (v + 1)) (fun l => vc xs zH_103 n true d 103 88 l st t Q)) := by
  rw [vc_q (o := (5, 1, 4, 0, [])) (by decide +kernel)]; rfl
theorem v_103_88 (xs : Option (List Int32)) (n : Nat) (b : Bool) (d : Nat) (ml : List Value) (t : T) (Q : Option Value → T → Prop) (st : List Value) : vc xs zH_103 (n + 1) b d 103 88 ml st t Q = vc xs zH_103 n true d 103 40 ml st t Q := by
  rw [vc_q (o := (22, 0, 40, 0, [])) (by decide +kernel)]; rfl
theorem v_103_91 (xs : Option (List Int32)) (n : Nat) (b : Bool) (d : Nat) (ml : List Value) (t : T) (Q : Option Value → T → Prop) (st : List Value) : vc xs zH_103 (n + 1) b d 103 91 ml st t Q = vgi ml 3 (fun v => vc xs zH_103 n true d 103 92 ml (.int v :: st) t Q) := by
  rw [vc_q (o := (1, 0, 3, 0, [])) (by decide +kernel)]; rfl
theorem v_103_92 (xs : Option (List Int32)) (n : Nat) (b : Bool) (d : Nat) (ml : List Value) (t : T) (Q : Option Value → T → Prop) (v : Int32) : vc xs zH_103 (n + 1) b d 103 92 ml [.int v] t Q = Q (some (.int v)) t := by
  rw [vc_q (o := (40, 0, 0, 0, [])) (by decide +kernel)]; rfl
def zH_105 : List Nat := []
theorem v_105_0 (xs : Option (List Int32)) (n : Nat) (b : Bool) (d : Nat) (ml : List Value) (t : T) (Q : Option Value → T → Prop) (st : List Value) : vc xs zH_105 (n + 1) b d 105 0 ml st t Q = vga ml 0 (fun v => vc xs zH_105 n true d 105 1 ml (.ref v :: st) t Q) := by
  rw [vc_q (o := (2, 0, 0, 0, [])) (by decide +kernel)]; rfl
theorem v_105_1 (xs : Option (List Int32)) (n : Nat) (b : Bool) (d : Nat) (ml : List Value) (t : T) (Q : Option Value → T → Prop) (u : Nat) (r : List Value) : vc xs zH_105 (n + 1) b d 105 1 ml (.ref u :: r) t Q = (vtag u = 8 ∧ vc xs zH_105 n true d 105 4 ml (.int (t.1 u 1) :: r) t Q) := by
  rw [vc_q (o := (24, 0, 8, 1, [])) (by decide +kernel)]; rfl
theorem v_105_4 (xs : Option (List Int32)) (n : Nat) (b : Bool) (d : Nat) (ml : List Value) (t : T) (Q : Option Value → T → Prop) (st : List Value) : vc xs zH_105 (n + 1) b d 105 4 ml st t Q = vgi ml 1 (fun v => vc xs zH_105 n true d 105 5 ml (.int v :: st) t Q) := by
  rw [vc_q (o := (1, 0, 1, 0, [])) (by decide +kernel)]; rfl
theorem v_105_5 (xs : Option (List Int32)) (n : Nat) (b : Bool) (d : Nat) (ml : List Value) (t : T) (Q : Option Value → T → Prop) (u v : Int32) (r : List Value) : vc xs zH_105 (n + 1) b d 105 5 ml (.int v :: .int u :: r) t Q = vc xs zH_105 n true d 105 6 ml (.int (u + v) :: r) t Q := by
  rw [vc_q (o := (6, 0, 0, 0, [])) (by decide +kernel)]; rfl
theorem v_105_6 (xs : Option (List Int32)) (n : Nat) (b : Bool) (d : Nat) (ml : List Value) (t : T) (Q : Option Value → T → Prop) (st : List Value) : vc xs zH_105 (n + 1) b d 105 6 ml st t Q = vga ml 0 (fun v => vc xs zH_105 n true d 105 7 ml (.ref v :: st) t Q) := by
  rw [vc_q (o := (2, 0, 0, 0, [])) (by decide +kernel)]; rfl
theorem v_105_7 (xs : Option (List Int32)) (n : Nat) (b : Bool) (d : Nat) (ml : List Value) (t : T) (Q : Option Value → T → Prop) (u : Nat) (r : List Value) : vc xs zH_105 (n + 1) b d 105 7 ml (.ref u :: r) t Q = (vtag u = 8 ∧ vc xs zH_105 n true d 105 10 ml (.ref (tref t u 0) :: r) t Q) := by
  rw [vc_q (o := (25, 0, 8, 0, [])) (by decide +kernel)]; rfl
theorem v_105_10 (xs : Option (List Int32)) (n : Nat) (b : Bool) (d : Nat) (ml : List Value) (t : T) (Q : Option Value → T → Prop) (u : Nat) (r : List Value) : vc xs zH_105 (n + 1) b d 105 10 ml (.ref u :: r) t Q = (100 ≤ vtag u ∧ vtag u < 108 ∧ vc xs zH_105 n true d 105 11 ml (.int (Int32.ofNat (vlen u)) :: r) t Q) := by
  rw [vc_q (o := (35, 0, 0, 0, [])) (by decide +kernel)]; rfl
theorem v_105_11 (xs : Option (List Int32)) (n : Nat) (b : Bool) (d : Nat) (ml : List Value) (t : T) (Q : Option Value → T → Prop) (u v : Int32) (r : List Value) : vc xs zH_105 (n + 1) b d 105 11 ml (.int v :: .int u :: r) t Q = (if v < u then vc xs zH_105 n true d 105 18 ml r t Q else vc xs zH_105 n true d 105 14 ml r t Q) := by
  rw [vc_q (o := (20, 0, 18, 4, [])) (by decide +kernel)]; rfl
theorem v_105_14 (xs : Option (List Int32)) (n : Nat) (b : Bool) (d : Nat) (ml : List Value) (t : T) (Q : Option Value → T → Prop) (st : List Value) : vc xs zH_105 (n + 1) b d 105 14 ml st t Q = vc xs zH_105 n true d 105 15 ml (.int 1 :: st) t Q := by
  rw [vc_q (o := (0, 1, 0, 0, [])) (by decide +kernel)]; rfl
theorem v_105_15 (xs : Option (List Int32)) (n : Nat) (b : Bool) (d : Nat) (ml : List Value) (t : T) (Q : Option Value → T → Prop) (st : List Value) : vc xs zH_105 (n + 1) b d 105 15 ml st t Q = vc xs zH_105 n true d 105 19 ml st t Q := by
  rw [vc_q (o := (22, 0, 19, 0, [])) (by decide +kernel)]; rfl
theorem v_105_18 (xs : Option (List Int32)) (n : Nat) (b : Bool) (d : Nat) (ml : List Value) (t : T) (Q : Option Value → T → Prop) (st : List Value) : vc xs zH_105 (n + 1) b d 105 18 ml st t Q = vc xs zH_105 n true d 105 19 ml (.int 0 :: st) t Q := by
  rw [vc_q (o := (0, 0, 0, 0, [])) (by decide +kernel)]; rfl
theorem v_105_19 (xs : Option (List Int32)) (n : Nat) (b : Bool) (d : Nat) (ml : List Value) (t : T) (Q : Option Value → T → Prop) (v : Int32) : vc xs zH_105 (n + 1) b d 105 19 ml [.int v] t Q = ((v = 0 ∨ v = 1) ∧ Q (some (.int v)) t) := by
  rw [vc_q (o := (41, 0, 0, 0, [])) (by decide +kernel)]; rfl
def zH_106 : List Nat := []
theorem v_106_0 (xs : Option (List Int32)) (n : Nat) (b : Bool) (d : Nat) (ml : List Value) (t : T) (Q : Option Value → T → Prop) (st : List Value) : vc xs zH_106 (n + 1) b d 106 0 ml st t Q = vga ml 0 (fun v => vc xs zH_106 n true d 106 1 ml (.ref v :: st) t Q) := by
  rw [vc_q (o := (2, 0, 0, 0, [])) (by decide +kernel)]; rfl
theorem v_106_1 (xs : Option (List Int32)) (n : Nat) (b : Bool) (d : Nat) (ml : List Value) (t : T) (Q : Option Value → T → Prop) (u : Nat) (r : List Value) : vc xs zH_106 (n + 1) b d 106 1 ml (.ref u :: r) t Q = (vtag u = 8 ∧ vc xs zH_106 n true d 106 4 ml (.ref (tref t u 0) :: r) t Q) := by
  rw [vc_q (o := (25, 0, 8, 0, [])) (by decide +kernel)]; rfl
theorem v_106_4 (xs : Option (List Int32)) (n : Nat) (b : Bool) (d : Nat) (ml : List Value) (t : T) (Q : Option Value → T → Prop) (st : List Value) : vc xs zH_106 (n + 1) b d 106 4 ml st t Q = vga ml 0 (fun v => vc xs zH_106 n true d 106 5 ml (.ref v :: st) t Q) := by
  rw [vc_q (o := (2, 0, 0, 0, [])) (by decide +kernel)]; rfl
theorem v_106_5 (xs : Option (List Int32)) (n : Nat) (b : Bool) (d : Nat) (ml : List Value) (t : T) (Q : Option Value → T → Prop) (u : Nat) (r : List Value) : vc xs zH_106 (n + 1) b d 106 5 ml (.ref u :: r) t Q = (vtag u = 8 ∧ vc xs zH_106 n true d 106 8 ml (.int (t.1 u 1) :: r) t Q) := by
  rw [vc_q (o := (24, 0, 8, 1, [])) (by decide +kernel)]; rfl
theorem v_106_8 (xs : Option (List Int32)) (n : Nat) (b : Bool) (d : Nat) (ml : List Value) (t : T) (Q : Option Value → T → Prop) (v : Int32) (u : Nat) (r : List Value) : vc xs zH_106 (n + 1) b d 106 8 ml (.int v :: .ref u :: r) t Q = (103 ≤ vtag u ∧ vtag u < 108 ∧ vinb v (vlen u) ∧ vc xs zH_106 n true d 106 9 ml (.ref (tref t u v.toNatClampNeg) :: r) t Q) := by
  rw [vc_q (o := (31, 0, 0, 0, [])) (by decide +kernel)]; rfl
theorem v_106_9 (xs : Option (List Int32)) (n : Nat) (b : Bool) (d : Nat) (ml : List Value) (t : T) (Q : Option Value → T → Prop) (v : Nat) (r : List Value) : vc xs zH_106 (n + 1) b d 106 9 ml (.ref v :: r) t Q = vset ml 2 (.ref v) (fun l => vc xs zH_106 n true d 106 10 l r t Q) := by
  rw [vc_q (o := (4, 0, 2, 0, [])) (by decide +kernel)]; rfl
theorem v_106_10 (xs : Option (List Int32)) (n : Nat) (b : Bool) (d : Nat) (ml : List Value) (t : T) (Q : Option Value → T → Prop) (st : List Value) : vc xs zH_106 (n + 1) b d 106 10 ml st t Q = vga ml 2 (fun v => vc xs zH_106 n true d 106 11 ml (.ref v :: st) t Q) := by
  rw [vc_q (o := (2, 0, 2, 0, [])) (by decide +kernel)]; rfl
theorem v_106_11 (xs : Option (List Int32)) (n : Nat) (b : Bool) (d : Nat) (ml : List Value) (t : T) (Q : Option Value → T → Prop) (st : List Value) : vc xs zH_106 (n + 1) b d 106 11 ml st t Q = vga ml 1 (fun v => vc xs zH_106 n true d 106 12 ml (.ref v :: st) t Q) := by
  rw [vc_q (o := (2, 0, 1, 0, [])) (by decide +kernel)]; rfl
theorem v_106_12 (xs : Option (List Int32)) (n : Nat) (b : Bool) (d : Nat) (ml : List Value) (t : T) (Q : Option Value → T → Prop) (st : List Value) : vc xs zH_106 (n + 1) b d 106 12 ml st t Q = (st.all zc1 = true ∧ vtk 2 st [] (fun as rest => rest.length ≤ 8 ∧ vrc as 4 (twc d 168 as t (fun r t' => vc xs zH_106 n true d 106 15 ml (r.toList ++ rest) t' Q)))) := by
  rw [vc_q (o := (36, 0, 168, 1, [(0, 4)])) (by decide +kernel)]; rfl
theorem v_106_15 (xs : Option (List Int32)) (n : Nat) (b : Bool) (d : Nat) (ml : List Value) (t : T) (Q : Option Value → T → Prop) (st : List Value) : vc xs zH_106 (n + 1) b d 106 15 ml st t Q = vga ml 0 (fun v => vc xs zH_106 n true d 106 16 ml (.ref v :: st) t Q) := by
  rw [vc_q (o := (2, 0, 0, 0, [])) (by decide +kernel)]; rfl
theorem v_106_16_int (xs : Option (List Int32)) (n : Nat) (b : Bool) (d : Nat) (ml : List Value) (t : T) (Q : Option Value → T → Prop) (v : Int32) (r : List Value) : vc xs zH_106 (n + 1) b d 106 16 ml (.int v :: r) t Q = vc xs zH_106 n true d 106 17 ml (.int v :: .int v :: r) t Q := by
  rw [vc_q (o := (17, 0, 0, 0, [])) (by decide +kernel)]; rfl
theorem v_106_16_ref (xs : Option (List Int32)) (n : Nat) (b : Bool) (d : Nat) (ml : List Value) (t : T) (Q : Option Value → T → Prop) (v : Nat) (r : List Value) : vc xs zH_106 (n + 1) b d 106 16 ml (.ref v :: r) t Q = vc xs zH_106 n true d 106 17 ml (.ref v :: .ref v :: r) t Q := by
  rw [vc_q (o := (17, 0, 0, 0, [])) (by decide +kernel)]; rfl
theorem v_106_17 (xs : Option (List Int32)) (n : Nat) (b : Bool) (d : Nat) (ml : List Value) (t : T) (Q : Option Value → T → Prop) (u : Nat) (r : List Value) : vc xs zH_106 (n + 1) b d 106 17 ml (.ref u :: r) t Q = (vtag u = 8 ∧ vc xs zH_106 n true d 106 20 ml (.int (t.1 u 1) :: r) t Q) := by
  rw [vc_q (o := (24, 0, 8, 1, [])) (by decide +kernel)]; rfl
theorem v_106_20 (xs : Option (List Int32)) (n : Nat) (b : Bool) (d : Nat) (ml : List Value) (t : T) (Q : Option Value → T → Prop) (st : List Value) : vc xs zH_106 (n + 1) b d 106 20 ml st t Q = vc xs zH_106 n true d 106 21 ml (.int 1 :: st) t Q := by
  rw [vc_q (o := (0, 1, 0, 0, [])) (by decide +kernel)]; rfl
theorem v_106_21 (xs : Option (List Int32)) (n : Nat) (b : Bool) (d : Nat) (ml : List Value) (t : T) (Q : Option Value → T → Prop) (u v : Int32) (r : List Value) : vc xs zH_106 (n + 1) b d 106 21 ml (.int v :: .int u :: r) t Q = vc xs zH_106 n true d 106 22 ml (.int (u + v) :: r) t Q := by
  rw [vc_q (o := (6, 0, 0, 0, [])) (by decide +kernel)]; rfl
theorem v_106_22 (xs : Option (List Int32)) (n : Nat) (b : Bool) (d : Nat) (ml : List Value) (t : T) (Q : Option Value → T → Prop) (v : Int32) (u : Nat) (r : List Value) : vc xs zH_106 (n + 1) b d 106 22 ml (.int v :: .ref u :: r) t Q = (vtag u = 8 ∧ vc xs zH_106 n true d 106 25 ml r (tsi t u 1 v) Q) := by
  rw [vc_q (o := (26, 0, 8, 1, [])) (by decide +kernel)]; rfl
theorem v_106_25 (xs : Option (List Int32)) (n : Nat) (b : Bool) (d : Nat) (ml : List Value) (t : T) (Q : Option Value → T → Prop) (st : List Value) : vc xs zH_106 (n + 1) b d 106 25 ml st t Q = vga ml 2 (fun v => vc xs zH_106 n true d 106 26 ml (.ref v :: st) t Q) := by
  rw [vc_q (o := (2, 0, 2, 0, [])) (by decide +kernel)]; rfl
theorem v_106_26 (xs : Option (List Int32)) (n : Nat) (b : Bool) (d : Nat) (ml : List Value) (t : T) (Q : Option Value → T → Prop) (v : Nat) : vc xs zH_106 (n + 1) b d 106 26 ml [.ref v] t Q = Q (some (.ref v)) t := by
  rw [vc_q (o := (42, 0, 0, 0, [])) (by decide +kernel)]; rfl
def zH_107 : List Nat := [2]
theorem v_107_0 (xs : Option (List Int32)) (n : Nat) (b : Bool) (d : Nat) (ml : List Value) (t : T) (Q : Option Value → T → Prop) (st : List Value) : vc xs zH_107 (n + 1) b d 107 0 ml st t Q = vc xs zH_107 n true d 107 1 ml (.int 0 :: st) t Q := by
  rw [vc_q (o := (0, 0, 0, 0, [])) (by decide +kernel)]; rfl
theorem v_107_1 (xs : Option (List Int32)) (n : Nat) (b : Bool) (d : Nat) (ml : List Value) (t : T) (Q : Option Value → T → Prop) (v : Int32) (r : List Value) : vc xs zH_107 (n + 1) b d 107 1 ml (.int v :: r) t Q = vset ml 2 (.int v) (fun l => vc xs zH_107 n true d 107 2 l r t Q) := by
  rw [vc_q (o := (3, 0, 2, 0, [])) (by decide +kernel)]; rfl
theorem v_107_2 (xs : Option (List Int32)) (n : Nat) (d : Nat) (ml : List Value) (t : T) (Q : Option Value → T → Prop) (st : List Value) : vc xs zH_107 (n + 1) false d 107 2 ml st t Q = vgi ml 2 (fun v => vc xs zH_107 n true d 107 3 ml (.int v :: st) t Q) := by
  rw [vc_q (o := (1, 0, 2, 0, [])) (by decide +kernel)]; rfl
theorem h_107_2 (xs : Option (List Int32)) (n d : Nat) (ml st : List Value) (t : T) (Q : Option Value → T → Prop) : vc xs zH_107 (n + 1) true d 107 2 ml st t Q = twp xs d 107 2 ml st t Q := id rfl
theorem v_107_3 (xs : Option (List Int32)) (n : Nat) (b : Bool) (d : Nat) (ml : List Value) (t : T) (Q : Option Value → T → Prop) (st : List Value) : vc xs zH_107 (n + 1) b d 107 3 ml st t Q = vga ml 0 (fun v => vc xs zH_107 n true d 107 4 ml (.ref v :: st) t Q) := by
  rw [vc_q (o := (2, 0, 0, 0, [])) (by decide +kernel)]; rfl
theorem v_107_4 (xs : Option (List Int32)) (n : Nat) (b : Bool) (d : Nat) (ml : List Value) (t : T) (Q : Option Value → T → Prop) (u : Nat) (r : List Value) : vc xs zH_107 (n + 1) b d 107 4 ml (.ref u :: r) t Q = (vtag u = 8 ∧ vc xs zH_107 n true d 107 7 ml (.int (t.1 u 1) :: r) t Q) := by
  rw [vc_q (o := (24, 0, 8, 1, [])) (by decide +kernel)]; rfl
theorem v_107_7 (xs : Option (List Int32)) (n : Nat) (b : Bool) (d : Nat) (ml : List Value) (t : T) (Q : Option Value → T → Prop) (u v : Int32) (r : List Value) : vc xs zH_107 (n + 1) b d 107 7 ml (.int v :: .int u :: r) t Q = (if u < v then vc xs zH_107 n true d 107 10 ml r t Q else vc xs zH_107 n true d 107 31 ml r t Q) := by
  rw [vc_q (o := (20, 0, 31, 3, [])) (by decide +kernel)]; rfl
theorem v_107_10 (xs : Option (List Int32)) (n : Nat) (b : Bool) (d : Nat) (ml : List Value) (t : T) (Q : Option Value → T → Prop) (st : List Value) : vc xs zH_107 (n + 1) b d 107 10 ml st t Q = vga ml 0 (fun v => vc xs zH_107 n true d 107 11 ml (.ref v :: st) t Q) := by
  rw [vc_q (o := (2, 0, 0, 0, [])) (by decide +kernel)]; rfl
theorem v_107_11 (xs : Option (List Int32)) (n : Nat) (b : Bool) (d : Nat) (ml : List Value) (t : T) (Q : Option Value → T → Prop) (u : Nat) (r : List Value) : vc xs zH_107 (n + 1) b d 107 11 ml (.ref u :: r) t Q = (vtag u = 8 ∧ vc xs zH_107 n true d 107 14 ml (.ref (tref t u 0) :: r) t Q) := by
  rw [vc_q (o := (25, 0, 8, 0, [])) (by decide +kernel)]; rfl
theorem v_107_14 (xs : Option (List Int32)) (n : Nat) (b : Bool) (d : Nat) (ml : List Value) (t : T) (Q : Option Value → T → Prop) (st : List Value) : vc xs zH_107 (n + 1) b d 107 14 ml st t Q = vgi ml 2 (fun v => vc xs zH_107 n true d 107 15 ml (.int v :: st) t Q) := by
  rw [vc_q (o := (1, 0, 2, 0, [])) (by decide +kernel)]; rfl
theorem v_107_15 (xs : Option (List Int32)) (n : Nat) (b : Bool) (d : Nat) (ml : List Value) (t : T) (Q : Option Value → T → Prop) (v : Int32) (u : Nat) (r : List Value) : vc xs zH_107 (n + 1) b d 107 15 ml (.int v :: .ref u :: r) t Q = (103 ≤ vtag u ∧ vtag u < 108 ∧ vinb v (vlen u) ∧ vc xs zH_107 n true d 107 16 ml (.ref (tref t u v.toNatClampNeg) :: r) t Q) := by
  rw [vc_q (o := (31, 0, 0, 0, [])) (by decide +kernel)]; rfl
theorem v_107_16 (xs : Option (List Int32)) (n : Nat) (b : Bool) (d : Nat) (ml : List Value) (t : T) (Q : Option Value → T → Prop) (st : List Value) : vc xs zH_107 (n + 1) b d 107 16 ml st t Q = vga ml 1 (fun v => vc xs zH_107 n true d 107 17 ml (.ref v :: st) t Q) := by
  rw [vc_q (o := (2, 0, 1, 0, [])) (by decide +kernel)]; rfl
theorem v_107_17 (xs : Option (List Int32)) (n : Nat) (b : Bool) (d : Nat) (ml : List Value) (t : T) (Q : Option Value → T → Prop) (st : List Value) : vc xs zH_107 (n + 1) b d 107 17 ml st t Q = (st.all zc1 = true ∧ vtk 2 st [] (fun as rest => rest.length ≤ 8 ∧ vrc as 4 (twc d 169 as t (fun r t' => vc xs zH_107 n true d 107 20 ml (r.toList ++ rest) t' Q)))) := by
  rw [vc_q (o := (36, 0, 169, 1, [(0, 4)])) (by decide +kernel)]; rfl
theorem v_107_20 (xs : Option (List Int32)) (n : Nat) (b : Bool) (d : Nat) (ml : List Value) (t : T) (Q : Option Value → T → Prop) (u : Int32) (r : List Value) : vc xs zH_107 (n + 1) b d 107 20 ml (.int u :: r) t Q = (if u = 0 then vc xs zH_107 n true d 107 23 ml r t Q else vc xs zH_107 n true d 107 25 ml r t Q) := by
  rw [vc_q (o := (21, 0, 25, 1, [])) (by decide +kernel)]; rfl
theorem v_107_23 (xs : Option (List Int32)) (n : Nat) (b : Bool) (d : Nat) (ml : List Value) (t : T) (Q : Option Value → T → Prop) (st : List Value) : vc xs zH_107 (n + 1) b d 107 23 ml st t Q = vc xs zH_107 n true d 107 24 ml (.int 1 :: st) t Q := by
  rw [vc_q (o := (0, 1, 0, 0, [])) (by decide +kernel)]; rfl
theorem v_107_24 (xs : Option (List Int32)) (n : Nat) (b : Bool) (d : Nat) (ml : List Value) (t : T) (Q : Option Value → T → Prop) (v : Int32) : vc xs zH_107 (n + 1) b d 107 24 ml [.int v] t Q = ((v = 0 ∨ v = 1) ∧ Q (some (.int v)) t) := by
  rw [vc_q (o := (41, 0, 0, 0, [])) (by decide +kernel)]; rfl
theorem v_107_25 (xs : Option (List Int32)) (n : Nat) (b : Bool) (d : Nat) (ml : List Value) (t : T) (Q : Option Value → T → Prop) (st : List Value) : vc xs zH_107 (n + 1) b d 107 25 ml st t Q = vgi ml 2 (fun v => vset ml 2 (.int (v + 1)) (fun l => vc xs zH_107 n true d 107 28 l st t Q)) := by
  rw [vc_q (o := (5, 1, 2, 0, [])) (by decide +kernel)]; rfl
theorem v_107_28 (xs : Option (List Int32)) (n : Nat) (b : Bool) (d : Nat) (ml : List Value) (t : T) (Q : Option Value → T → Prop) (st : List Value) : vc xs zH_107 (n + 1) b d 107 28 ml st t Q = vc xs zH_107 n true d 107 2 ml st t Q := by
  rw [vc_q (o := (22, 0, 2, 0, [])) (by decide +kernel)]; rfl
theorem v_107_31 (xs : Option (List Int32)) (n : Nat) (b : Bool) (d : Nat) (ml : List Value) (t : T) (Q : Option Value → T → Prop) (st : List Value) : vc xs zH_107 (n + 1) b d 107 31 ml st t Q = vga ml 0 (fun v => vc xs zH_107 n true d 107 32 ml (.ref v :: st) t Q) := by
  rw [vc_q (o := (2, 0, 0, 0, [])) (by decide +kernel)]; rfl
theorem v_107_32 (xs : Option (List Int32)) (n : Nat) (b : Bool) (d : Nat) (ml : List Value) (t : T) (Q : Option Value → T → Prop) (st : List Value) : vc xs zH_107 (n + 1) b d 107 32 ml st t Q = vc xs zH_107 n true d 107 33 ml (.int 1 :: st) t Q := by
  rw [vc_q (o := (0, 1, 0, 0, [])) (by decide +kernel)]; rfl
theorem v_107_33 (xs : Option (List Int32)) (n : Nat) (b : Bool) (d : Nat) (ml : List Value) (t : T) (Q : Option Value → T → Prop) (st : List Value) : vc xs zH_107 (n + 1) b d 107 33 ml st t Q = (st.all zc1 = true ∧ vtk 2 st [] (fun as rest => rest.length ≤ 8 ∧ vrc as 8 (twc d 105 as t (fun r t' => vc xs zH_107 n true d 107 36 ml (r.toList ++ rest) t' Q)))) := by
  rw [vc_q (o := (36, 0, 105, 1, [(0, 8)])) (by decide +kernel)]; rfl
theorem v_107_36 (xs : Option (List Int32)) (n : Nat) (b : Bool) (d : Nat) (ml : List Value) (t : T) (Q : Option Value → T → Prop) (u : Int32) (r : List Value) : vc xs zH_107 (n + 1) b d 107 36 ml (.int u :: r) t Q = (if u = 0 then vc xs zH_107 n true d 107 39 ml r t Q else vc xs zH_107 n true d 107 41 ml r t Q) := by
  rw [vc_q (o := (21, 0, 41, 1, [])) (by decide +kernel)]; rfl
theorem v_107_39 (xs : Option (List Int32)) (n : Nat) (b : Bool) (d : Nat) (ml : List Value) (t : T) (Q : Option Value → T → Prop) (st : List Value) : vc xs zH_107 (n + 1) b d 107 39 ml st t Q = vc xs zH_107 n true d 107 40 ml (.int 0 :: st) t Q := by
  rw [vc_q (o := (0, 0, 0, 0, [])) (by decide +kernel)]; rfl
theorem v_107_40 (xs : Option (List Int32)) (n : Nat) (b : Bool) (d : Nat) (ml : List Value) (t : T) (Q : Option Value → T → Prop) (v : Int32) : vc xs zH_107 (n + 1) b d 107 40 ml [.int v] t Q = ((v = 0 ∨ v = 1) ∧ Q (some (.int v)) t) := by
  rw [vc_q (o := (41, 0, 0, 0, [])) (by decide +kernel)]; rfl
theorem v_107_41 (xs : Option (List Int32)) (n : Nat) (b : Bool) (d : Nat) (ml : List Value) (t : T) (Q : Option Value → T → Prop) (st : List Value) : vc xs zH_107 (n + 1) b d 107 41 ml st t Q = vga ml 0 (fun v => vc xs zH_107 n true d 107 42 ml (.ref v :: st) t Q) := by
  rw [vc_q (o := (2, 0, 0, 0, [])) (by decide +kernel)]; rfl
theorem v_107_42 (xs : Option (List Int32)) (n : Nat) (b : Bool) (d : Nat) (ml : List Value) (t : T) (Q : Option Value → T → Prop) (st : List Value) : vc xs zH_107 (n + 1) b d 107 42 ml st t Q = vga ml 1 (fun v => vc xs zH_107 n true d 107 43 ml (.ref v :: st) t Q) := by
  rw [vc_q (o := (2, 0, 1, 0, [])) (by decide +kernel)]; rfl
theorem v_107_43 (xs : Option (List Int32)) (n : Nat) (b : Bool) (d : Nat) (ml : List Value) (t : T) (Q : Option Value → T → Prop) (st : List Value) : vc xs zH_107 (n + 1) b d 107 43 ml st t Q = (st.all zc1 = true ∧ vtk 2 st [] (fun as rest => rest.length ≤ 8 ∧ vrc as 8 (twc d 106 as t (fun r t' => vc xs zH_107 n true d 107 46 ml (r.toList ++ rest) t' Q)))) := by
  rw [vc_q (o := (36, 0, 106, 1, [(0, 8)])) (by decide +kernel)]; rfl
theorem v_107_46_int (xs : Option (List Int32)) (n : Nat) (b : Bool) (d : Nat) (ml : List Value) (t : T) (Q : Option Value → T → Prop) (v : Int32) (r : List Value) : vc xs zH_107 (n + 1) b d 107 46 ml (.int v :: r) t Q = vc xs zH_107 n true d 107 47 ml r t Q := by
  rw [vc_q (o := (19, 0, 0, 0, [])) (by decide +kernel)]; rfl
theorem v_107_46_ref (xs : Option (List Int32)) (n : Nat) (b : Bool) (d : Nat) (ml : List Value) (t : T) (Q : Option Value → T → Prop) (v : Nat) (r : List Value) : vc xs zH_107 (n + 1) b d 107 46 ml (.ref v :: r) t Q = vc xs zH_107 n true d 107 47 ml r t Q := by
  rw [vc_q (o := (19, 0, 0, 0, [])) (by decide +kernel)]; rfl
theorem v_107_47 (xs : Option (List Int32)) (n : Nat) (b : Bool) (d : Nat) (ml : List Value) (t : T) (Q : Option Value → T → Prop) (st : List Value) : vc xs zH_107 (n + 1) b d 107 47 ml st t Q = vc xs zH_107 n true d 107 48 ml (.int 1 :: st) t Q := by
  rw [vc_q (o := (0, 1, 0, 0, [])) (by decide +kernel)]; rfl
theorem v_107_48 (xs : Option (List Int32)) (n : Nat) (b : Bool) (d : Nat) (ml : List Value) (t : T) (Q : Option Value → T → Prop) (v : Int32) : vc xs zH_107 (n + 1) b d 107 48 ml [.int v] t Q = ((v = 0 ∨ v = 1) ∧ Q (some (.int v)) t) := by
  rw [vc_q (o := (41, 0, 0, 0, [])) (by decide +kernel)]; rfl
def zH_108 : List Nat := []
theorem v_108_0 (xs : Option (List Int32)) (n : Nat) (b : Bool) (d : Nat) (ml : List Value) (t : T) (Q : Option Value → T → Prop) (st : List Value) : vc xs zH_108 (n + 1) b d 108 0 ml st t Q = vga ml 0 (fun v => vc xs zH_108 n true d 108 1 ml (.ref v :: st) t Q) := by
  rw [vc_q (o := (2, 0, 0, 0, [])) (by decide +kernel)]; rfl
theorem v_108_1 (xs : Option (List Int32)) (n : Nat) (b : Bool) (d : Nat) (ml : List Value) (t : T) (Q : Option Value → T → Prop) (u : Nat) (r : List Value) : vc xs zH_108 (n + 1) b d 108 1 ml (.ref u :: r) t Q = (vtag u = 8 ∧ vc xs zH_108 n true d 108 4 ml (.ref (tref t u 0) :: r) t Q) := by
  rw [vc_q (o := (25, 0, 8, 0, [])) (by decide +kernel)]; rfl
theorem v_108_4 (xs : Option (List Int32)) (n : Nat) (b : Bool) (d : Nat) (ml : List Value) (t : T) (Q : Option Value → T → Prop) (st : List Value) : vc xs zH_108 (n + 1) b d 108 4 ml st t Q = vgi ml 1 (fun v => vc xs zH_108 n true d 108 5 ml (.int v :: st) t Q) := by
  rw [vc_q (o := (1, 0, 1, 0, [])) (by decide +kernel)]; rfl
theorem v_108_5 (xs : Option (List Int32)) (n : Nat) (b : Bool) (d : Nat) (ml : List Value) (t : T) (Q : Option Value → T → Prop) (v : Int32) (u : Nat) (r : List Value) : vc xs zH_108 (n + 1) b d 108 5 ml (.int v :: .ref u :: r) t Q = (103 ≤ vtag u ∧ vtag u < 108 ∧ vinb v (vlen u) ∧ vc xs zH_108 n true d 108 6 ml (.ref (tref t u v.toNatClampNeg) :: r) t Q) := by
  rw [vc_q (o := (31, 0, 0, 0, [])) (by decide +kernel)]; rfl
theorem v_108_6 (xs : Option (List Int32)) (n : Nat) (b : Bool) (d : Nat) (ml : List Value) (t : T) (Q : Option Value → T → Prop) (v : Nat) (r : List Value) : vc xs zH_108 (n + 1) b d 108 6 ml (.ref v :: r) t Q = vset ml 3 (.ref v) (fun l => vc xs zH_108 n true d 108 7 l r t Q) := by
  rw [vc_q (o := (4, 0, 3, 0, [])) (by decide +kernel)]; rfl
theorem v_108_7 (xs : Option (List Int32)) (n : Nat) (b : Bool) (d : Nat) (ml : List Value) (t : T) (Q : Option Value → T → Prop) (st : List Value) : vc xs zH_108 (n + 1) b d 108 7 ml st t Q = vga ml 0 (fun v => vc xs zH_108 n true d 108 8 ml (.ref v :: st) t Q) := by
  rw [vc_q (o := (2, 0, 0, 0, [])) (by decide +kernel)]; rfl
theorem v_108_8 (xs : Option (List Int32)) (n : Nat) (b : Bool) (d : Nat) (ml : List Value) (t : T) (Q : Option Value → T → Prop) (u : Nat) (r : List Value) : vc xs zH_108 (n + 1) b d 108 8 ml (.ref u :: r) t Q = (vtag u = 8 ∧ vc xs zH_108 n true d 108 11 ml (.ref (tref t u 0) :: r) t Q) := by
  rw [vc_q (o := (25, 0, 8, 0, [])) (by decide +kernel)]; rfl
theorem v_108_11 (xs : Option (List Int32)) (n : Nat) (b : Bool) (d : Nat) (ml : List Value) (t : T) (Q : Option Value → T → Prop) (st : List Value) : vc xs zH_108 (n + 1) b d 108 11 ml st t Q = vgi ml 1 (fun v => vc xs zH_108 n true d 108 12 ml (.int v :: st) t Q) := by
  rw [vc_q (o := (1, 0, 1, 0, [])) (by decide +kernel)]; rfl
theorem v_108_12 (xs : Option (List Int32)) (n : Nat) (b : Bool) (d : Nat) (ml : List Value) (t : T) (Q : Option Value → T → Prop) (st : List Value) : vc xs zH_108 (n + 1) b d 108 12 ml st t Q = vga ml 0 (fun v => vc xs zH_108 n true d 108 13 ml (.ref v :: st) t Q) := by
  rw [vc_q (o := (2, 0, 0, 0, [])) (by decide +kernel)]; rfl
theorem v_108_13 (xs : Option (List Int32)) (n : Nat) (b : Bool) (d : Nat) (ml : List Value) (t : T) (Q : Option Value → T → Prop) (u : Nat) (r : List Value) : vc xs zH_108 (n + 1) b d 108 13 ml (.ref u :: r) t Q = (vtag u = 8 ∧ vc xs zH_108 n true d 108 16 ml (.ref (tref t u 0) :: r) t Q) := by
  rw [vc_q (o := (25, 0, 8, 0, [])) (by decide +kernel)]; rfl
theorem v_108_16 (xs : Option (List Int32)) (n : Nat) (b : Bool) (d : Nat) (ml : List Value) (t : T) (Q : Option Value → T → Prop) (st : List Value) : vc xs zH_108 (n + 1) b d 108 16 ml st t Q = vgi ml 2 (fun v => vc xs zH_108 n true d 108 17 ml (.int v :: st) t Q) := by
  rw [vc_q (o := (1, 0, 2, 0, [])) (by decide +kernel)]; rfl
theorem v_108_17 (xs : Option (List Int32)) (n : Nat) (b : Bool) (d : Nat) (ml : List Value) (t : T) (Q : Option Value → T → Prop) (v : Int32) (u : Nat) (r : List Value) : vc xs zH_108 (n + 1) b d 108 17 ml (.int v :: .ref u :: r) t Q = (103 ≤ vtag u ∧ vtag u < 108 ∧ vinb v (vlen u) ∧ vc xs zH_108 n true d 108 18 ml (.ref (tref t u v.toNatClampNeg) :: r) t Q) := by
  rw [vc_q (o := (31, 0, 0, 0, [])) (by decide +kernel)]; rfl
theorem v_108_18 (xs : Option (List Int32)) (n : Nat) (b : Bool) (d : Nat) (ml : List Value) (t : T) (Q : Option Value → T → Prop) (w : Nat) (v : Int32) (u : Nat) (r : List Value) : vc xs zH_108 (n + 1) b d 108 18 ml (.ref w :: .int v :: .ref u :: r) t Q = (103 ≤ vtag u ∧ vtag u < 108 ∧ vtag w = zoc (vtag u) ∧ vinb v (vlen u) ∧ tmut u v.toNatClampNeg = true ∧ vc xs zH_108 n true d 108 19 ml r (tsr t u v.toNatClampNeg w) Q) := by
  rw [vc_q (o := (34, 0, 0, 0, [])) (by decide +kernel)]; rfl
theorem v_108_19 (xs : Option (List Int32)) (n : Nat) (b : Bool) (d : Nat) (ml : List Value) (t : T) (Q : Option Value → T → Prop) (st : List Value) : vc xs zH_108 (n + 1) b d 108 19 ml st t Q = vga ml 0 (fun v => vc xs zH_108 n true d 108 20 ml (.ref v :: st) t Q) := by
  rw [vc_q (o := (2, 0, 0, 0, [])) (by decide +kernel)]; rfl
theorem v_108_20 (xs : Option (List Int32)) (n : Nat) (b : Bool) (d : Nat) (ml : List Value) (t : T) (Q : Option Value → T → Prop) (u : Nat) (r : List Value) : vc xs zH_108 (n + 1) b d 108 20 ml (.ref u :: r) t Q = (vtag u = 8 ∧ vc xs zH_108 n true d 108 23 ml (.ref (tref t u 0) :: r) t Q) := by
  rw [vc_q (o := (25, 0, 8, 0, [])) (by decide +kernel)]; rfl
theorem v_108_23 (xs : Option (List Int32)) (n : Nat) (b : Bool) (d : Nat) (ml : List Value) (t : T) (Q : Option Value → T → Prop) (st : List Value) : vc xs zH_108 (n + 1) b d 108 23 ml st t Q = vgi ml 2 (fun v => vc xs zH_108 n true d 108 24 ml (.int v :: st) t Q) := by
  rw [vc_q (o := (1, 0, 2, 0, [])) (by decide +kernel)]; rfl
theorem v_108_24 (xs : Option (List Int32)) (n : Nat) (b : Bool) (d : Nat) (ml : List Value) (t : T) (Q : Option Value → T → Prop) (st : List Value) : vc xs zH_108 (n + 1) b d 108 24 ml st t Q = vga ml 3 (fun v => vc xs zH_108 n true d 108 25 ml (.ref v :: st) t Q) := by
  rw [vc_q (o := (2, 0, 3, 0, [])) (by decide +kernel)]; rfl
theorem v_108_25 (xs : Option (List Int32)) (n : Nat) (b : Bool) (d : Nat) (ml : List Value) (t : T) (Q : Option Value → T → Prop) (w : Nat) (v : Int32) (u : Nat) (r : List Value) : vc xs zH_108 (n + 1) b d 108 25 ml (.ref w :: .int v :: .ref u :: r) t Q = (103 ≤ vtag u ∧ vtag u < 108 ∧ vtag w = zoc (vtag u) ∧ vinb v (vlen u) ∧ tmut u v.toNatClampNeg = true ∧ vc xs zH_108 n true d 108 26 ml r (tsr t u v.toNatClampNeg w) Q) := by
  rw [vc_q (o := (34, 0, 0, 0, [])) (by decide +kernel)]; rfl
theorem v_108_26 (xs : Option (List Int32)) (n : Nat) (b : Bool) (d : Nat) (ml : List Value) (t : T) (Q : Option Value → T → Prop)  : vc xs zH_108 (n + 1) b d 108 26 ml [] t Q = Q none t := by
  rw [vc_q (o := (43, 0, 0, 0, [])) (by decide +kernel)]; rfl
def zH_109 : List Nat := [2, 12]
theorem v_109_0 (xs : Option (List Int32)) (n : Nat) (b : Bool) (d : Nat) (ml : List Value) (t : T) (Q : Option Value → T → Prop) (st : List Value) : vc xs zH_109 (n + 1) b d 109 0 ml st t Q = vc xs zH_109 n true d 109 1 ml (.int 1 :: st) t Q := by
  rw [vc_q (o := (0, 1, 0, 0, [])) (by decide +kernel)]; rfl
theorem v_109_1 (xs : Option (List Int32)) (n : Nat) (b : Bool) (d : Nat) (ml : List Value) (t : T) (Q : Option Value → T → Prop) (v : Int32) (r : List Value) : vc xs zH_109 (n + 1) b d 109 1 ml (.int v :: r) t Q = vset ml 1 (.int v) (fun l => vc xs zH_109 n true d 109 2 l r t Q) := by
  rw [vc_q (o := (3, 0, 1, 0, [])) (by decide +kernel)]; rfl
theorem v_109_2 (xs : Option (List Int32)) (n : Nat) (d : Nat) (ml : List Value) (t : T) (Q : Option Value → T → Prop) (st : List Value) : vc xs zH_109 (n + 1) false d 109 2 ml st t Q = vgi ml 1 (fun v => vc xs zH_109 n true d 109 3 ml (.int v :: st) t Q) := by
  rw [vc_q (o := (1, 0, 1, 0, [])) (by decide +kernel)]; rfl
theorem h_109_2 (xs : Option (List Int32)) (n d : Nat) (ml st : List Value) (t : T) (Q : Option Value → T → Prop) : vc xs zH_109 (n + 1) true d 109 2 ml st t Q = twp xs d 109 2 ml st t Q := id rfl
theorem v_109_3 (xs : Option (List Int32)) (n : Nat) (b : Bool) (d : Nat) (ml : List Value) (t : T) (Q : Option Value → T → Prop) (st : List Value) : vc xs zH_109 (n + 1) b d 109 3 ml st t Q = vga ml 0 (fun v => vc xs zH_109 n true d 109 4 ml (.ref v :: st) t Q) := by
  rw [vc_q (o := (2, 0, 0, 0, [])) (by decide +kernel)]; rfl
theorem v_109_4 (xs : Option (List Int32)) (n : Nat) (b : Bool) (d : Nat) (ml : List Value) (t : T) (Q : Option Value → T → Prop) (u : Nat) (r : List Value) : vc xs zH_109 (n + 1) b d 109 4 ml (.ref u :: r) t Q = (vtag u = 8 ∧ vc xs zH_109 n true d 109 7 ml (.int (t.1 u 1) :: r) t Q) := by
  rw [vc_q (o := (24, 0, 8, 1, [])) (by decide +kernel)]; rfl
theorem v_109_7 (xs : Option (List Int32)) (n : Nat) (b : Bool) (d : Nat) (ml : List Value) (t : T) (Q : Option Value → T → Prop) (u v : Int32) (r : List Value) : vc xs zH_109 (n + 1) b d 109 7 ml (.int v :: .int u :: r) t Q = (if u < v then vc xs zH_109 n true d 109 10 ml r t Q else vc xs zH_109 n true d 109 56 ml r t Q) := by
  rw [vc_q (o := (20, 0, 56, 3, [])) (by decide +kernel)]; rfl
theorem v_109_10 (xs : Option (List Int32)) (n : Nat) (b : Bool) (d : Nat) (ml : List Value) (t : T) (Q : Option Value → T → Prop) (st : List Value) : vc xs zH_109 (n + 1) b d 109 10 ml st t Q = vgi ml 1 (fun v => vc xs zH_109 n true d 109 11 ml (.int v :: st) t Q) := by
  rw [vc_q (o := (1, 0, 1, 0, [])) (by decide +kernel)]; rfl
theorem v_109_11 (xs : Option (List Int32)) (n : Nat) (b : Bool) (d : Nat) (ml : List Value) (t : T) (Q : Option Value → T → Prop) (v : Int32) (r : List Value) : vc xs zH_109 (n + 1) b d 109 11 ml (.int v :: r) t Q = vset ml 2 (.int v) (fun l => vc xs zH_109 n true d 109 12 l r t Q) := by
  rw [vc_q (o := (3, 0, 2, 0, [])) (by decide +kernel)]; rfl
theorem v_109_12 (xs : Option (List Int32)) (n : Nat) (d : Nat) (ml : List Value) (t : T) (Q : Option Value → T → Prop) (st : List Value) : vc xs zH_109 (n + 1) false d 109 12 ml st t Q = vgi ml 2 (fun v => vc xs zH_109 n true d 109 13 ml (.int v :: st) t Q) := by
  rw [vc_q (o := (1, 0, 2, 0, [])) (by decide +kernel)]; rfl
theorem h_109_12 (xs : Option (List Int32)) (n d : Nat) (ml st : List Value) (t : T) (Q : Option Value → T → Prop) : vc xs zH_109 (n + 1) true d 109 12 ml st t Q = twp xs d 109 12 ml st t Q := id rfl
theorem v_109_13 (xs : Option (List Int32)) (n : Nat) (b : Bool) (d : Nat) (ml : List Value) (t : T) (Q : Option Value → T → Prop) (u : Int32) (r : List Value) : vc xs zH_109 (n + 1) b d 109 13 ml (.int u :: r) t Q = (if 0 < u then vc xs zH_109 n true d 109 16 ml r t Q else vc xs zH_109 n true d 109 50 ml r t Q) := by
  rw [vc_q (o := (21, 0, 50, 5, [])) (by decide +kernel)]; rfl
theorem v_109_16 (xs : Option (List Int32)) (n : Nat) (b : Bool) (d : Nat) (ml : List Value) (t : T) (Q : Option Value → T → Prop) (st : List Value) : vc xs zH_109 (n + 1) b d 109 16 ml st t Q = vga ml 0 (fun v => vc xs zH_109 n true d 109 17 ml (.ref v :: st) t Q) := by
  rw [vc_q (o := (2, 0, 0, 0, [])) (by decide +kernel)]; rfl
theorem v_109_17 (xs : Option (List Int32)) (n : Nat) (b : Bool) (d : Nat) (ml : List Value) (t : T) (Q : Option Value → T → Prop) (u : Nat) (r : List Value) : vc xs zH_109 (n + 1) b d 109 17 ml (.ref u :: r) t Q = (vtag u = 8 ∧ vc xs zH_109 n true d 109 20 ml (.ref (tref t u 0) :: r) t Q) := by
  rw [vc_q (o := (25, 0, 8, 0, [])) (by decide +kernel)]; rfl
theorem v_109_20 (xs : Option (List Int32)) (n : Nat) (b : Bool) (d : Nat) (ml : List Value) (t : T) (Q : Option Value → T → Prop) (st : List Value) : vc xs zH_109 (n + 1) b d 109 20 ml st t Q = vgi ml 2 (fun v => vc xs zH_109 n true d 109 21 ml (.int v :: st) t Q) := by
  rw [vc_q (o := (1, 0, 2, 0, [])) (by decide +kernel)]; rfl
theorem v_109_21 (xs : Option (List Int32)) (n : Nat) (b : Bool) (d : Nat) (ml : List Value) (t : T) (Q : Option Value → T → Prop) (v : Int32) (u : Nat) (r : List Value) : vc xs zH_109 (n + 1) b d 109 21 ml (.int v :: .ref u :: r) t Q = (103 ≤ vtag u ∧ vtag u < 108 ∧ vinb v (vlen u) ∧ vc xs zH_109 n true d 109 22 ml (.ref (tref t u v.toNatClampNeg) :: r) t Q) := by
  rw [vc_q (o := (31, 0, 0, 0, [])) (by decide +kernel)]; rfl
theorem v_109_22 (xs : Option (List Int32)) (n : Nat) (b : Bool) (d : Nat) (ml : List Value) (t : T) (Q : Option Value → T → Prop) (st : List Value) : vc xs zH_109 (n + 1) b d 109 22 ml st t Q = vga ml 0 (fun v => vc xs zH_109 n true d 109 23 ml (.ref v :: st) t Q) := by
  rw [vc_q (o := (2, 0, 0, 0, [])) (by decide +kernel)]; rfl
theorem v_109_23 (xs : Option (List Int32)) (n : Nat) (b : Bool) (d : Nat) (ml : List Value) (t : T) (Q : Option Value → T → Prop) (u : Nat) (r : List Value) : vc xs zH_109 (n + 1) b d 109 23 ml (.ref u :: r) t Q = (vtag u = 8 ∧ vc xs zH_109 n true d 109 26 ml (.ref (tref t u 0) :: r) t Q) := by
  rw [vc_q (o := (25, 0, 8, 0, [])) (by decide +kernel)]; rfl
theorem v_109_26 (xs : Option (List Int32)) (n : Nat) (b : Bool) (d : Nat) (ml : List Value) (t : T) (Q : Option Value → T → Prop) (st : List Value) : vc xs zH_109 (n + 1) b d 109 26 ml st t Q = vgi ml 2 (fun v => vc xs zH_109 n true d 109 27 ml (.int v :: st) t Q) := by
  rw [vc_q (o := (1, 0, 2, 0, [])) (by decide +kernel)]; rfl
theorem v_109_27 (xs : Option (List Int32)) (n : Nat) (b : Bool) (d : Nat) (ml : List Value) (t : T) (Q : Option Value → T → Prop) (st : List Value) : vc xs zH_109 (n + 1) b d 109 27 ml st t Q = vc xs zH_109 n true d 109 28 ml (.int 1 :: st) t Q := by
  rw [vc_q (o := (0, 1, 0, 0, [])) (by decide +kernel)]; rfl
theorem v_109_28 (xs : Option (List Int32)) (n : Nat) (b : Bool) (d : Nat) (ml : List Value) (t : T) (Q : Option Value → T → Prop) (u v : Int32) (r : List Value) : vc xs zH_109 (n + 1) b d 109 28 ml (.int v :: .int u :: r) t Q = vc xs zH_109 n true d 109 29 ml (.int (u - v) :: r) t Q := by
  rw [vc_q (o := (7, 0, 0, 0, [])) (by decide +kernel)]; rfl
theorem v_109_29 (xs : Option (List Int32)) (n : Nat) (b : Bool) (d : Nat) (ml : List Value) (t : T) (Q : Option Value → T → Prop) (v : Int32) (u : Nat) (r : List Value) : vc xs zH_109 (n + 1) b d 109 29 ml (.int v :: .ref u :: r) t Q = (103 ≤ vtag u ∧ vtag u < 108 ∧ vinb v (vlen u) ∧ vc xs zH_109 n true d 109 30 ml (.ref (tref t u v.toNatClampNeg) :: r) t Q) := by
  rw [vc_q (o := (31, 0, 0, 0, [])) (by decide +kernel)]; rfl
theorem v_109_30 (xs : Option (List Int32)) (n : Nat) (b : Bool) (d : Nat) (ml : List Value) (t : T) (Q : Option Value → T → Prop) (st : List Value) : vc xs zH_109 (n + 1) b d 109 30 ml st t Q = (st.all zc1 = true ∧ vtk 2 st [] (fun as rest => rest.length ≤ 8 ∧ vrc as 4 (twc d 169 as t (fun r t' => vc xs zH_109 n true d 109 33 ml (r.toList ++ rest) t' Q)))) := by
  rw [vc_q (o := (36, 0, 169, 1, [(0, 4)])) (by decide +kernel)]; rfl
theorem v_109_33 (xs : Option (List Int32)) (n : Nat) (b : Bool) (d : Nat) (ml : List Value) (t : T) (Q : Option Value → T → Prop) (u : Int32) (r : List Value) : vc xs zH_109 (n + 1) b d 109 33 ml (.int u :: r) t Q = (if u < 0 then vc xs zH_109 n true d 109 36 ml r t Q else vc xs zH_109 n true d 109 50 ml r t Q) := by
  rw [vc_q (o := (21, 0, 50, 3, [])) (by decide +kernel)]; rfl
theorem v_109_36 (xs : Option (List Int32)) (n : Nat) (b : Bool) (d : Nat) (ml : List Value) (t : T) (Q : Option Value → T → Prop) (st : List Value) : vc xs zH_109 (n + 1) b d 109 36 ml st t Q = vga ml 0 (fun v => vc xs zH_109 n true d 109 37 ml (.ref v :: st) t Q) := by
  rw [vc_q (o := (2, 0, 0, 0, [])) (by decide +kernel)]; rfl
theorem v_109_37 (xs : Option (List Int32)) (n : Nat) (b : Bool) (d : Nat) (ml : List Value) (t : T) (Q : Option Value → T → Prop) (st : List Value) : vc xs zH_109 (n + 1) b d 109 37 ml st t Q = vgi ml 2 (fun v => vc xs zH_109 n true d 109 38 ml (.int v :: st) t Q) := by
  rw [vc_q (o := (1, 0, 2, 0, [])) (by decide +kernel)]; rfl
theorem v_109_38 (xs : Option (List Int32)) (n : Nat) (b : Bool) (d : Nat) (ml : List Value) (t : T) (Q : Option Value → T → Prop) (st : List Value) : vc xs zH_109 (n + 1) b d 109 38 ml st t Q = vgi ml 2 (fun v => vc xs zH_109 n true d 109 39 ml (.int v :: st) t Q) := by
  rw [vc_q (o := (1, 0, 2, 0, [])) (by decide +kernel)]; rfl
theorem v_109_39 (xs : Option (List Int32)) (n : Nat) (b : Bool) (d : Nat) (ml : List Value) (t : T) (Q : Option Value → T → Prop) (st : List Value) : vc xs zH_109 (n + 1) b d 109 39 ml st t Q = vc xs zH_109 n true d 109 40 ml (.int 1 :: st) t Q := by
  rw [vc_q (o := (0, 1, 0, 0, [])) (by decide +kernel)]; rfl
theorem v_109_40 (xs : Option (List Int32)) (n : Nat) (b : Bool) (d : Nat) (ml : List Value) (t : T) (Q : Option Value → T → Prop) (u v : Int32) (r : List Value) : vc xs zH_109 (n + 1) b d 109 40 ml (.int v :: .int u :: r) t Q = vc xs zH_109 n true d 109 41 ml (.int (u - v) :: r) t Q := by
  rw [vc_q (o := (7, 0, 0, 0, [])) (by decide +kernel)]; rfl
theorem v_109_41 (xs : Option (List Int32)) (n : Nat) (b : Bool) (d : Nat) (ml : List Value) (t : T) (Q : Option Value → T → Prop) (st : List Value) : vc xs zH_109 (n + 1) b d 109 41 ml st t Q = (st.all zc1 = true ∧ vtk 3 st [] (fun as rest => rest.length ≤ 8 ∧ vrc as 8 (twc d 108 as t (fun r t' => vc xs zH_109 n true d 109 44 ml (r.toList ++ rest) t' Q)))) := by
  rw [vc_q (o := (36, 0, 108, 2, [(0, 8)])) (by decide +kernel)]; rfl
theorem v_109_44 (xs : Option (List Int32)) (n : Nat) (b : Bool) (d : Nat) (ml : List Value) (t : T) (Q : Option Value → T → Prop) (st : List Value) : vc xs zH_109 (n + 1) b d 109 44 ml st t Q = vgi ml 2 (fun v => vset ml 2 (.int (v + (-1))) (fun l => vc xs zH_109 n true d 109 47 l st t Q)) := by
  rw [vc_q (o := (5, (-1), 2, 0, [])) (by decide +kernel)]; rfl
theorem v_109_47 (xs : Option (List Int32)) (n : Nat) (b : Bool) (d : Nat) (ml : List Value) (t : T) (Q : Option Value → T → Prop) (st : List Value) : vc xs zH_109 (n + 1) b d 109 47 ml st t Q = vc xs zH_109 n true d 109 12 ml st t Q := by
  rw [vc_q (o := (22, 0, 12, 0, [])) (by decide +kernel)]; rfl
theorem v_109_50 (xs : Option (List Int32)) (n : Nat) (b : Bool) (d : Nat) (ml : List Value) (t : T) (Q : Option Value → T → Prop) (st : List Value) : vc xs zH_109 (n + 1) b d 109 50 ml st t Q = vgi ml 1 (fun v => vset ml 1 (.int (v + 1)) (fun l => vc xs zH_109 n true d 109 53 l st t Q)) := by
  rw [vc_q (o := (5, 1, 1, 0, [])) (by decide +kernel)]; rfl
theorem v_109_53 (xs : Option (List Int32)) (n : Nat) (b : Bool) (d : Nat) (ml : List Value) (t : T) (Q : Option Value → T → Prop) (st : List Value) : vc xs zH_109 (n + 1) b d 109 53 ml st t Q = vc xs zH_109 n true d 109 2 ml st t Q := by
  rw [vc_q (o := (22, 0, 2, 0, [])) (by decide +kernel)]; rfl
theorem v_109_56 (xs : Option (List Int32)) (n : Nat) (b : Bool) (d : Nat) (ml : List Value) (t : T) (Q : Option Value → T → Prop)  : vc xs zH_109 (n + 1) b d 109 56 ml [] t Q = Q none t := by
  rw [vc_q (o := (43, 0, 0, 0, [])) (by decide +kernel)]; rfl
def zH_110 : List Nat := [2]
theorem v_110_0 (xs : Option (List Int32)) (n : Nat) (b : Bool) (d : Nat) (ml : List Value) (t : T) (Q : Option Value → T → Prop) (st : List Value) : vc xs zH_110 (n + 1) b d 110 0 ml st t Q = vc xs zH_110 n true d 110 1 ml (.int 0 :: st) t Q := by
  rw [vc_q (o := (0, 0, 0, 0, [])) (by decide +kernel)]; rfl
theorem v_110_1 (xs : Option (List Int32)) (n : Nat) (b : Bool) (d : Nat) (ml : List Value) (t : T) (Q : Option Value → T → Prop) (v : Int32) (r : List Value) : vc xs zH_110 (n + 1) b d 110 1 ml (.int v :: r) t Q = vset ml 2 (.int v) (fun l => vc xs zH_110 n true d 110 2 l r t Q) := by
  rw [vc_q (o := (3, 0, 2, 0, [])) (by decide +kernel)]; rfl
theorem v_110_2 (xs : Option (List Int32)) (n : Nat) (d : Nat) (ml : List Value) (t : T) (Q : Option Value → T → Prop) (st : List Value) : vc xs zH_110 (n + 1) false d 110 2 ml st t Q = vgi ml 2 (fun v => vc xs zH_110 n true d 110 3 ml (.int v :: st) t Q) := by
  rw [vc_q (o := (1, 0, 2, 0, [])) (by decide +kernel)]; rfl
theorem h_110_2 (xs : Option (List Int32)) (n d : Nat) (ml st : List Value) (t : T) (Q : Option Value → T → Prop) : vc xs zH_110 (n + 1) true d 110 2 ml st t Q = twp xs d 110 2 ml st t Q := id rfl
theorem v_110_3 (xs : Option (List Int32)) (n : Nat) (b : Bool) (d : Nat) (ml : List Value) (t : T) (Q : Option Value → T → Prop) (st : List Value) : vc xs zH_110 (n + 1) b d 110 3 ml st t Q = vga ml 1 (fun v => vc xs zH_110 n true d 110 4 ml (.ref v :: st) t Q) := by
  rw [vc_q (o := (2, 0, 1, 0, [])) (by decide +kernel)]; rfl
theorem v_110_4 (xs : Option (List Int32)) (n : Nat) (b : Bool) (d : Nat) (ml : List Value) (t : T) (Q : Option Value → T → Prop) (u : Nat) (r : List Value) : vc xs zH_110 (n + 1) b d 110 4 ml (.ref u :: r) t Q = (vtag u = 8 ∧ vc xs zH_110 n true d 110 7 ml (.int (t.1 u 1) :: r) t Q) := by
  rw [vc_q (o := (24, 0, 8, 1, [])) (by decide +kernel)]; rfl
theorem v_110_7 (xs : Option (List Int32)) (n : Nat) (b : Bool) (d : Nat) (ml : List Value) (t : T) (Q : Option Value → T → Prop) (u v : Int32) (r : List Value) : vc xs zH_110 (n + 1) b d 110 7 ml (.int v :: .int u :: r) t Q = (if u < v then vc xs zH_110 n true d 110 10 ml r t Q else vc xs zH_110 n true d 110 31 ml r t Q) := by
  rw [vc_q (o := (20, 0, 31, 3, [])) (by decide +kernel)]; rfl
theorem v_110_10 (xs : Option (List Int32)) (n : Nat) (b : Bool) (d : Nat) (ml : List Value) (t : T) (Q : Option Value → T → Prop) (st : List Value) : vc xs zH_110 (n + 1) b d 110 10 ml st t Q = vga ml 0 (fun v => vc xs zH_110 n true d 110 11 ml (.ref v :: st) t Q) := by
  rw [vc_q (o := (2, 0, 0, 0, [])) (by decide +kernel)]; rfl
theorem v_110_11 (xs : Option (List Int32)) (n : Nat) (b : Bool) (d : Nat) (ml : List Value) (t : T) (Q : Option Value → T → Prop) (u : Nat) (r : List Value) : vc xs zH_110 (n + 1) b d 110 11 ml (.ref u :: r) t Q = (vtag u = 8 ∧ vc xs zH_110 n true d 110 14 ml (.ref (tref t u 0) :: r) t Q) := by
  rw [vc_q (o := (25, 0, 8, 0, [])) (by decide +kernel)]; rfl
theorem v_110_14 (xs : Option (List Int32)) (n : Nat) (b : Bool) (d : Nat) (ml : List Value) (t : T) (Q : Option Value → T → Prop) (st : List Value) : vc xs zH_110 (n + 1) b d 110 14 ml st t Q = vgi ml 2 (fun v => vc xs zH_110 n true d 110 15 ml (.int v :: st) t Q) := by
  rw [vc_q (o := (1, 0, 2, 0, [])) (by decide +kernel)]; rfl
theorem v_110_15 (xs : Option (List Int32)) (n : Nat) (b : Bool) (d : Nat) (ml : List Value) (t : T) (Q : Option Value → T → Prop) (v : Int32) (u : Nat) (r : List Value) : vc xs zH_110 (n + 1) b d 110 15 ml (.int v :: .ref u :: r) t Q = (103 ≤ vtag u ∧ vtag u < 108 ∧ vinb v (vlen u) ∧ vc xs zH_110 n true d 110 16 ml (.ref (tref t u v.toNatClampNeg) :: r) t Q) := by
  rw [vc_q (o := (31, 0, 0, 0, [])) (by decide +kernel)]; rfl
theorem v_110_16 (xs : Option (List Int32)) (n : Nat) (b : Bool) (d : Nat) (ml : List Value) (t : T) (Q : Option Value → T → Prop) (st : List Value) : vc xs zH_110 (n + 1) b d 110 16 ml st t Q = vga ml 1 (fun v => vc xs zH_110 n true d 110 17 ml (.ref v :: st) t Q) := by
  rw [vc_q (o := (2, 0, 1, 0, [])) (by decide +kernel)]; rfl
theorem v_110_17 (xs : Option (List Int32)) (n : Nat) (b : Bool) (d : Nat) (ml : List Value) (t : T) (Q : Option Value → T → Prop) (u : Nat) (r : List Value) : vc xs zH_110 (n + 1) b d 110 17 ml (.ref u :: r) t Q = (vtag u = 8 ∧ vc xs zH_110 n true d 110 20 ml (.ref (tref t u 0) :: r) t Q) := by
  rw [vc_q (o := (25, 0, 8, 0, [])) (by decide +kernel)]; rfl
theorem v_110_20 (xs : Option (List Int32)) (n : Nat) (b : Bool) (d : Nat) (ml : List Value) (t : T) (Q : Option Value → T → Prop) (st : List Value) : vc xs zH_110 (n + 1) b d 110 20 ml st t Q = vgi ml 2 (fun v => vc xs zH_110 n true d 110 21 ml (.int v :: st) t Q) := by
  rw [vc_q (o := (1, 0, 2, 0, [])) (by decide +kernel)]; rfl
theorem v_110_21 (xs : Option (List Int32)) (n : Nat) (b : Bool) (d : Nat) (ml : List Value) (t : T) (Q : Option Value → T → Prop) (v : Int32) (u : Nat) (r : List Value) : vc xs zH_110 (n + 1) b d 110 21 ml (.int v :: .ref u :: r) t Q = (103 ≤ vtag u ∧ vtag u < 108 ∧ vinb v (vlen u) ∧ vc xs zH_110 n true d 110 22 ml (.ref (tref t u v.toNatClampNeg) :: r) t Q) := by
  rw [vc_q (o := (31, 0, 0, 0, [])) (by decide +kernel)]; rfl
theorem v_110_22 (xs : Option (List Int32)) (n : Nat) (b : Bool) (d : Nat) (ml : List Value) (t : T) (Q : Option Value → T → Prop) (st : List Value) : vc xs zH_110 (n + 1) b d 110 22 ml st t Q = (st.all zc1 = true ∧ vtk 2 st [] (fun as rest => rest.length ≤ 8 ∧ vrc as 4 (twc d 168 as t (fun r t' => vc xs zH_110 n true d 110 25 ml (r.toList ++ rest) t' Q)))) := by
  rw [vc_q (o := (36, 0, 168, 1, [(0, 4)])) (by decide +kernel)]; rfl
theorem v_110_25 (xs : Option (List Int32)) (n : Nat) (b : Bool) (d : Nat) (ml : List Value) (t : T) (Q : Option Value → T → Prop) (st : List Value) : vc xs zH_110 (n + 1) b d 110 25 ml st t Q = vgi ml 2 (fun v => vset ml 2 (.int (v + 1)) (fun l => vc xs zH_110 n true d 110 28 l st t Q)) := by
  rw [vc_q (o := (5, 1, 2, 0, [])) (by decide +kernel)]; rfl
theorem v_110_28 (xs : Option (List Int32)) (n : Nat) (b : Bool) (d : Nat) (ml : List Value) (t : T) (Q : Option Value → T → Prop) (st : List Value) : vc xs zH_110 (n + 1) b d 110 28 ml st t Q = vc xs zH_110 n true d 110 2 ml st t Q := by
  rw [vc_q (o := (22, 0, 2, 0, [])) (by decide +kernel)]; rfl
theorem v_110_31 (xs : Option (List Int32)) (n : Nat) (b : Bool) (d : Nat) (ml : List Value) (t : T) (Q : Option Value → T → Prop) (st : List Value) : vc xs zH_110 (n + 1) b d 110 31 ml st t Q = vga ml 0 (fun v => vc xs zH_110 n true d 110 32 ml (.ref v :: st) t Q) := by
  rw [vc_q (o := (2, 0, 0, 0, [])) (by decide +kernel)]; rfl
theorem v_110_32 (xs : Option (List Int32)) (n : Nat) (b : Bool) (d : Nat) (ml : List Value) (t : T) (Q : Option Value → T → Prop) (st : List Value) : vc xs zH_110 (n + 1) b d 110 32 ml st t Q = vga ml 1 (fun v => vc xs zH_110 n true d 110 33 ml (.ref v :: st) t Q) := by
  rw [vc_q (o := (2, 0, 1, 0, [])) (by decide +kernel)]; rfl
theorem v_110_33 (xs : Option (List Int32)) (n : Nat) (b : Bool) (d : Nat) (ml : List Value) (t : T) (Q : Option Value → T → Prop) (u : Nat) (r : List Value) : vc xs zH_110 (n + 1) b d 110 33 ml (.ref u :: r) t Q = (vtag u = 8 ∧ vc xs zH_110 n true d 110 36 ml (.int (t.1 u 1) :: r) t Q) := by
  rw [vc_q (o := (24, 0, 8, 1, [])) (by decide +kernel)]; rfl
theorem v_110_36 (xs : Option (List Int32)) (n : Nat) (b : Bool) (d : Nat) (ml : List Value) (t : T) (Q : Option Value → T → Prop) (v : Int32) (u : Nat) (r : List Value) : vc xs zH_110 (n + 1) b d 110 36 ml (.int v :: .ref u :: r) t Q = (vtag u = 8 ∧ vc xs zH_110 n true d 110 39 ml r (tsi t u 1 v) Q) := by
  rw [vc_q (o := (26, 0, 8, 1, [])) (by decide +kernel)]; rfl
theorem v_110_39 (xs : Option (List Int32)) (n : Nat) (b : Bool) (d : Nat) (ml : List Value) (t : T) (Q : Option Value → T → Prop)  : vc xs zH_110 (n + 1) b d 110 39 ml [] t Q = Q none t := by
  rw [vc_q (o := (43, 0, 0, 0, [])) (by decide +kernel)]; rfl
def zH_112 : List Nat := []
theorem v_112_0 (xs : Option (List Int32)) (n : Nat) (b : Bool) (d : Nat) (ml : List Value) (t : T) (Q : Option Value → T → Prop) (st : List Value) : vc xs zH_112 (n + 1) b d 112 0 ml st t Q = vgi ml 0 (fun v => vc xs zH_112 n true d 112 1 ml (.int v :: st) t Q) := by
  rw [vc_q (o := (1, 0, 0, 0, [])) (by decide +kernel)]; rfl
theorem v_112_1 (xs : Option (List Int32)) (n : Nat) (b : Bool) (d : Nat) (ml : List Value) (t : T) (Q : Option Value → T → Prop) (st : List Value) : vc xs zH_112 (n + 1) b d 112 1 ml st t Q = vc xs zH_112 n true d 112 4 ml (.int 512 :: st) t Q := by
  rw [vc_q (o := (0, 512, 2, 0, [])) (by decide +kernel)]; rfl
theorem v_112_4 (xs : Option (List Int32)) (n : Nat) (b : Bool) (d : Nat) (ml : List Value) (t : T) (Q : Option Value → T → Prop) (st : List Value) : vc xs zH_112 (n + 1) b d 112 4 ml st t Q = (st.all zc1 = true ∧ vtk 2 st [] (fun as rest => rest.length ≤ 8 ∧ twc d 22 as t (fun r t' => vc xs zH_112 n true d 112 7 ml (r.toList ++ rest) t' Q))) := by
  rw [vc_q (o := (37, 0, 22, 2, [])) (by decide +kernel)]; rfl
theorem v_112_7 (xs : Option (List Int32)) (n : Nat) (b : Bool) (d : Nat) (ml : List Value) (t : T) (Q : Option Value → T → Prop) (u : Int32) (r : List Value) : vc xs zH_112 (n + 1) b d 112 7 ml (.int u :: r) t Q = (if u = 0 then vc xs zH_112 n true d 112 10 ml r t Q else vc xs zH_112 n true d 112 12 ml r t Q) := by
  rw [vc_q (o := (21, 0, 12, 1, [])) (by decide +kernel)]; rfl
theorem v_112_10 (xs : Option (List Int32)) (n : Nat) (b : Bool) (d : Nat) (ml : List Value) (t : T) (Q : Option Value → T → Prop) (st : List Value) : vc xs zH_112 (n + 1) b d 112 10 ml st t Q = vc xs zH_112 n true d 112 11 ml (.int 0 :: st) t Q := by
  rw [vc_q (o := (0, 0, 0, 0, [])) (by decide +kernel)]; rfl
theorem v_112_11 (xs : Option (List Int32)) (n : Nat) (b : Bool) (d : Nat) (ml : List Value) (t : T) (Q : Option Value → T → Prop) (v : Int32) : vc xs zH_112 (n + 1) b d 112 11 ml [.int v] t Q = ((v = 0 ∨ v = 1) ∧ Q (some (.int v)) t) := by
  rw [vc_q (o := (41, 0, 0, 0, [])) (by decide +kernel)]; rfl
theorem v_112_12 (xs : Option (List Int32)) (n : Nat) (b : Bool) (d : Nat) (ml : List Value) (t : T) (Q : Option Value → T → Prop) (st : List Value) : vc xs zH_112 (n + 1) b d 112 12 ml st t Q = vgi ml 0 (fun v => vc xs zH_112 n true d 112 13 ml (.int v :: st) t Q) := by
  rw [vc_q (o := (1, 0, 0, 0, [])) (by decide +kernel)]; rfl
theorem v_112_13 (xs : Option (List Int32)) (n : Nat) (b : Bool) (d : Nat) (ml : List Value) (t : T) (Q : Option Value → T → Prop) (st : List Value) : vc xs zH_112 (n + 1) b d 112 13 ml st t Q = vc xs zH_112 n true d 112 15 ml (.int 15 :: st) t Q := by
  rw [vc_q (o := (0, 15, 1, 0, [])) (by decide +kernel)]; rfl
theorem v_112_15 (xs : Option (List Int32)) (n : Nat) (b : Bool) (d : Nat) (ml : List Value) (t : T) (Q : Option Value → T → Prop) (u v : Int32) (r : List Value) : vc xs zH_112 (n + 1) b d 112 15 ml (.int v :: .int u :: r) t Q = vc xs zH_112 n true d 112 16 ml (.int (u &&& v) :: r) t Q := by
  rw [vc_q (o := (9, 0, 0, 0, [])) (by decide +kernel)]; rfl
theorem v_112_16 (xs : Option (List Int32)) (n : Nat) (b : Bool) (d : Nat) (ml : List Value) (t : T) (Q : Option Value → T → Prop) (v : Int32) (r : List Value) : vc xs zH_112 (n + 1) b d 112 16 ml (.int v :: r) t Q = vset ml 1 (.int v) (fun l => vc xs zH_112 n true d 112 17 l r t Q) := by
  rw [vc_q (o := (3, 0, 1, 0, [])) (by decide +kernel)]; rfl
theorem v_112_17 (xs : Option (List Int32)) (n : Nat) (b : Bool) (d : Nat) (ml : List Value) (t : T) (Q : Option Value → T → Prop) (st : List Value) : vc xs zH_112 (n + 1) b d 112 17 ml st t Q = vgi ml 0 (fun v => vc xs zH_112 n true d 112 18 ml (.int v :: st) t Q) := by
  rw [vc_q (o := (1, 0, 0, 0, [])) (by decide +kernel)]; rfl
theorem v_112_18 (xs : Option (List Int32)) (n : Nat) (b : Bool) (d : Nat) (ml : List Value) (t : T) (Q : Option Value → T → Prop) (st : List Value) : vc xs zH_112 (n + 1) b d 112 18 ml st t Q = vc xs zH_112 n true d 112 19 ml (.int 4 :: st) t Q := by
  rw [vc_q (o := (0, 4, 0, 0, [])) (by decide +kernel)]; rfl
theorem v_112_19 (xs : Option (List Int32)) (n : Nat) (b : Bool) (d : Nat) (ml : List Value) (t : T) (Q : Option Value → T → Prop) (u v : Int32) (r : List Value) : vc xs zH_112 (n + 1) b d 112 19 ml (.int v :: .int u :: r) t Q = vc xs zH_112 n true d 112 20 ml (.int (u >>> (v &&& 31)) :: r) t Q := by
  rw [vc_q (o := (13, 0, 0, 0, [])) (by decide +kernel)]; rfl
theorem v_112_20 (xs : Option (List Int32)) (n : Nat) (b : Bool) (d : Nat) (ml : List Value) (t : T) (Q : Option Value → T → Prop) (st : List Value) : vc xs zH_112 (n + 1) b d 112 20 ml st t Q = vc xs zH_112 n true d 112 22 ml (.int 15 :: st) t Q := by
  rw [vc_q (o := (0, 15, 1, 0, [])) (by decide +kernel)]; rfl
theorem v_112_22 (xs : Option (List Int32)) (n : Nat) (b : Bool) (d : Nat) (ml : List Value) (t : T) (Q : Option Value → T → Prop) (u v : Int32) (r : List Value) : vc xs zH_112 (n + 1) b d 112 22 ml (.int v :: .int u :: r) t Q = vc xs zH_112 n true d 112 23 ml (.int (u &&& v) :: r) t Q := by
  rw [vc_q (o := (9, 0, 0, 0, [])) (by decide +kernel)]; rfl
theorem v_112_23 (xs : Option (List Int32)) (n : Nat) (b : Bool) (d : Nat) (ml : List Value) (t : T) (Q : Option Value → T → Prop) (v : Int32) (r : List Value) : vc xs zH_112 (n + 1) b d 112 23 ml (.int v :: r) t Q = vset ml 2 (.int v) (fun l => vc xs zH_112 n true d 112 24 l r t Q) := by
  rw [vc_q (o := (3, 0, 2, 0, [])) (by decide +kernel)]; rfl
theorem v_112_24 (xs : Option (List Int32)) (n : Nat) (b : Bool) (d : Nat) (ml : List Value) (t : T) (Q : Option Value → T → Prop) (st : List Value) : vc xs zH_112 (n + 1) b d 112 24 ml st t Q = vgi ml 1 (fun v => vc xs zH_112 n true d 112 25 ml (.int v :: st) t Q) := by
  rw [vc_q (o := (1, 0, 1, 0, [])) (by decide +kernel)]; rfl
theorem v_112_25 (xs : Option (List Int32)) (n : Nat) (b : Bool) (d : Nat) (ml : List Value) (t : T) (Q : Option Value → T → Prop) (st : List Value) : vc xs zH_112 (n + 1) b d 112 25 ml st t Q = vc xs zH_112 n true d 112 27 ml (.int 6 :: st) t Q := by
  rw [vc_q (o := (0, 6, 1, 0, [])) (by decide +kernel)]; rfl
theorem v_112_27 (xs : Option (List Int32)) (n : Nat) (b : Bool) (d : Nat) (ml : List Value) (t : T) (Q : Option Value → T → Prop) (u v : Int32) (r : List Value) : vc xs zH_112 (n + 1) b d 112 27 ml (.int v :: .int u :: r) t Q = (if u < v then vc xs zH_112 n true d 112 36 ml r t Q else vc xs zH_112 n true d 112 30 ml r t Q) := by
  rw [vc_q (o := (20, 0, 36, 2, [])) (by decide +kernel)]; rfl
theorem v_112_30 (xs : Option (List Int32)) (n : Nat) (b : Bool) (d : Nat) (ml : List Value) (t : T) (Q : Option Value → T → Prop) (st : List Value) : vc xs zH_112 (n + 1) b d 112 30 ml st t Q = vgi ml 1 (fun v => vc xs zH_112 n true d 112 31 ml (.int v :: st) t Q) := by
  rw [vc_q (o := (1, 0, 1, 0, [])) (by decide +kernel)]; rfl
theorem v_112_31 (xs : Option (List Int32)) (n : Nat) (b : Bool) (d : Nat) (ml : List Value) (t : T) (Q : Option Value → T → Prop) (st : List Value) : vc xs zH_112 (n + 1) b d 112 31 ml st t Q = vc xs zH_112 n true d 112 33 ml (.int 15 :: st) t Q := by
  rw [vc_q (o := (0, 15, 1, 0, [])) (by decide +kernel)]; rfl
theorem v_112_33 (xs : Option (List Int32)) (n : Nat) (b : Bool) (d : Nat) (ml : List Value) (t : T) (Q : Option Value → T → Prop) (u v : Int32) (r : List Value) : vc xs zH_112 (n + 1) b d 112 33 ml (.int v :: .int u :: r) t Q = (if u = v then vc xs zH_112 n true d 112 36 ml r t Q else vc xs zH_112 n true d 112 47 ml r t Q) := by
  rw [vc_q (o := (20, 0, 47, 1, [])) (by decide +kernel)]; rfl
theorem v_112_36 (xs : Option (List Int32)) (n : Nat) (b : Bool) (d : Nat) (ml : List Value) (t : T) (Q : Option Value → T → Prop) (st : List Value) : vc xs zH_112 (n + 1) b d 112 36 ml st t Q = vgi ml 1 (fun v => vc xs zH_112 n true d 112 37 ml (.int v :: st) t Q) := by
  rw [vc_q (o := (1, 0, 1, 0, [])) (by decide +kernel)]; rfl
theorem v_112_37 (xs : Option (List Int32)) (n : Nat) (b : Bool) (d : Nat) (ml : List Value) (t : T) (Q : Option Value → T → Prop) (st : List Value) : vc xs zH_112 (n + 1) b d 112 37 ml st t Q = vc xs zH_112 n true d 112 38 ml (.int 2 :: st) t Q := by
  rw [vc_q (o := (0, 2, 0, 0, [])) (by decide +kernel)]; rfl
theorem v_112_38 (xs : Option (List Int32)) (n : Nat) (b : Bool) (d : Nat) (ml : List Value) (t : T) (Q : Option Value → T → Prop) (u v : Int32) (r : List Value) : vc xs zH_112 (n + 1) b d 112 38 ml (.int v :: .int u :: r) t Q = (if u < v then vc xs zH_112 n true d 112 45 ml r t Q else vc xs zH_112 n true d 112 41 ml r t Q) := by
  rw [vc_q (o := (20, 0, 45, 2, [])) (by decide +kernel)]; rfl
theorem v_112_41 (xs : Option (List Int32)) (n : Nat) (b : Bool) (d : Nat) (ml : List Value) (t : T) (Q : Option Value → T → Prop) (st : List Value) : vc xs zH_112 (n + 1) b d 112 41 ml st t Q = vc xs zH_112 n true d 112 42 ml (.int 1 :: st) t Q := by
  rw [vc_q (o := (0, 1, 0, 0, [])) (by decide +kernel)]; rfl
theorem v_112_42 (xs : Option (List Int32)) (n : Nat) (b : Bool) (d : Nat) (ml : List Value) (t : T) (Q : Option Value → T → Prop) (st : List Value) : vc xs zH_112 (n + 1) b d 112 42 ml st t Q = vc xs zH_112 n true d 112 46 ml st t Q := by
  rw [vc_q (o := (22, 0, 46, 0, [])) (by decide +kernel)]; rfl
theorem v_112_45 (xs : Option (List Int32)) (n : Nat) (b : Bool) (d : Nat) (ml : List Value) (t : T) (Q : Option Value → T → Prop) (st : List Value) : vc xs zH_112 (n + 1) b d 112 45 ml st t Q = vc xs zH_112 n true d 112 46 ml (.int 0 :: st) t Q := by
  rw [vc_q (o := (0, 0, 0, 0, [])) (by decide +kernel)]; rfl
theorem v_112_46 (xs : Option (List Int32)) (n : Nat) (b : Bool) (d : Nat) (ml : List Value) (t : T) (Q : Option Value → T → Prop) (v : Int32) : vc xs zH_112 (n + 1) b d 112 46 ml [.int v] t Q = ((v = 0 ∨ v = 1) ∧ Q (some (.int v)) t) := by
  rw [vc_q (o := (41, 0, 0, 0, [])) (by decide +kernel)]; rfl
theorem v_112_47 (xs : Option (List Int32)) (n : Nat) (b : Bool) (d : Nat) (ml : List Value) (t : T) (Q : Option Value → T → Prop) (st : List Value) : vc xs zH_112 (n + 1) b d 112 47 ml st t Q = vgi ml 1 (fun v => vc xs zH_112 n true d 112 48 ml (.int v :: st) t Q) := by
  rw [vc_q (o := (1, 0, 1, 0, [])) (by decide +kernel)]; rfl
theorem v_112_48 (xs : Option (List Int32)) (n : Nat) (b : Bool) (d : Nat) (ml : List Value) (t : T) (Q : Option Value → T → Prop) (st : List Value) : vc xs zH_112 (n + 1) b d 112 48 ml st t Q = vc xs zH_112 n true d 112 50 ml (.int 8 :: st) t Q := by
  rw [vc_q (o := (0, 8, 1, 0, [])) (by decide +kernel)]; rfl
theorem v_112_50 (xs : Option (List Int32)) (n : Nat) (b : Bool) (d : Nat) (ml : List Value) (t : T) (Q : Option Value → T → Prop) (u v : Int32) (r : List Value) : vc xs zH_112 (n + 1) b d 112 50 ml (.int v :: .int u :: r) t Q = (if u < v then vc xs zH_112 n true d 112 53 ml r t Q else vc xs zH_112 n true d 112 68 ml r t Q) := by
  rw [vc_q (o := (20, 0, 68, 3, [])) (by decide +kernel)]; rfl
theorem v_112_53 (xs : Option (List Int32)) (n : Nat) (b : Bool) (d : Nat) (ml : List Value) (t : T) (Q : Option Value → T → Prop) (st : List Value) : vc xs zH_112 (n + 1) b d 112 53 ml st t Q = vgi ml 2 (fun v => vc xs zH_112 n true d 112 54 ml (.int v :: st) t Q) := by
  rw [vc_q (o := (1, 0, 2, 0, [])) (by decide +kernel)]; rfl
theorem v_112_54 (xs : Option (List Int32)) (n : Nat) (b : Bool) (d : Nat) (ml : List Value) (t : T) (Q : Option Value → T → Prop) (st : List Value) : vc xs zH_112 (n + 1) b d 112 54 ml st t Q = vc xs zH_112 n true d 112 55 ml (.int 2 :: st) t Q := by
  rw [vc_q (o := (0, 2, 0, 0, [])) (by decide +kernel)]; rfl
theorem v_112_55 (xs : Option (List Int32)) (n : Nat) (b : Bool) (d : Nat) (ml : List Value) (t : T) (Q : Option Value → T → Prop) (u v : Int32) (r : List Value) : vc xs zH_112 (n + 1) b d 112 55 ml (.int v :: .int u :: r) t Q = (if u < v then vc xs zH_112 n true d 112 68 ml r t Q else vc xs zH_112 n true d 112 58 ml r t Q) := by
  rw [vc_q (o := (20, 0, 68, 2, [])) (by decide +kernel)]; rfl
theorem v_112_58 (xs : Option (List Int32)) (n : Nat) (b : Bool) (d : Nat) (ml : List Value) (t : T) (Q : Option Value → T → Prop) (st : List Value) : vc xs zH_112 (n + 1) b d 112 58 ml st t Q = vgi ml 2 (fun v => vc xs zH_112 n true d 112 59 ml (.int v :: st) t Q) := by
  rw [vc_q (o := (1, 0, 2, 0, [])) (by decide +kernel)]; rfl
theorem v_112_59 (xs : Option (List Int32)) (n : Nat) (b : Bool) (d : Nat) (ml : List Value) (t : T) (Q : Option Value → T → Prop) (st : List Value) : vc xs zH_112 (n + 1) b d 112 59 ml st t Q = vc xs zH_112 n true d 112 61 ml (.int 6 :: st) t Q := by
  rw [vc_q (o := (0, 6, 1, 0, [])) (by decide +kernel)]; rfl
theorem v_112_61 (xs : Option (List Int32)) (n : Nat) (b : Bool) (d : Nat) (ml : List Value) (t : T) (Q : Option Value → T → Prop) (u v : Int32) (r : List Value) : vc xs zH_112 (n + 1) b d 112 61 ml (.int v :: .int u :: r) t Q = (if u < v then vc xs zH_112 n true d 112 64 ml r t Q else vc xs zH_112 n true d 112 68 ml r t Q) := by
  rw [vc_q (o := (20, 0, 68, 3, [])) (by decide +kernel)]; rfl
theorem v_112_64 (xs : Option (List Int32)) (n : Nat) (b : Bool) (d : Nat) (ml : List Value) (t : T) (Q : Option Value → T → Prop) (st : List Value) : vc xs zH_112 (n + 1) b d 112 64 ml st t Q = vc xs zH_112 n true d 112 65 ml (.int 1 :: st) t Q := by
  rw [vc_q (o := (0, 1, 0, 0, [])) (by decide +kernel)]; rfl
theorem v_112_65 (xs : Option (List Int32)) (n : Nat) (b : Bool) (d : Nat) (ml : List Value) (t : T) (Q : Option Value → T → Prop) (st : List Value) : vc xs zH_112 (n + 1) b d 112 65 ml st t Q = vc xs zH_112 n true d 112 69 ml st t Q := by
  rw [vc_q (o := (22, 0, 69, 0, [])) (by decide +kernel)]; rfl
theorem v_112_68 (xs : Option (List Int32)) (n : Nat) (b : Bool) (d : Nat) (ml : List Value) (t : T) (Q : Option Value → T → Prop) (st : List Value) : vc xs zH_112 (n + 1) b d 112 68 ml st t Q = vc xs zH_112 n true d 112 69 ml (.int 0 :: st) t Q := by
  rw [vc_q (o := (0, 0, 0, 0, [])) (by decide +kernel)]; rfl
theorem v_112_69 (xs : Option (List Int32)) (n : Nat) (b : Bool) (d : Nat) (ml : List Value) (t : T) (Q : Option Value → T → Prop) (v : Int32) : vc xs zH_112 (n + 1) b d 112 69 ml [.int v] t Q = ((v = 0 ∨ v = 1) ∧ Q (some (.int v)) t) := by
  rw [vc_q (o := (41, 0, 0, 0, [])) (by decide +kernel)]; rfl
def zH_113 : List Nat := []
theorem v_113_0 (xs : Option (List Int32)) (n : Nat) (b : Bool) (d : Nat) (ml : List Value) (t : T) (Q : Option Value → T → Prop) (st : List Value) : vc xs zH_113 (n + 1) b d 113 0 ml st t Q = vga ml 0 (fun v => vc xs zH_113 n true d 113 1 ml (.ref v :: st) t Q) := by
  rw [vc_q (o := (2, 0, 0, 0, [])) (by decide +kernel)]; rfl
theorem v_113_1 (xs : Option (List Int32)) (n : Nat) (b : Bool) (d : Nat) (ml : List Value) (t : T) (Q : Option Value → T → Prop) (st : List Value) : vc xs zH_113 (n + 1) b d 113 1 ml st t Q = vgi ml 1 (fun v => vc xs zH_113 n true d 113 2 ml (.int v :: st) t Q) := by
  rw [vc_q (o := (1, 0, 1, 0, [])) (by decide +kernel)]; rfl
theorem v_113_2 (xs : Option (List Int32)) (n : Nat) (b : Bool) (d : Nat) (ml : List Value) (t : T) (Q : Option Value → T → Prop) (v : Int32) (u : Nat) (r : List Value) : vc xs zH_113 (n + 1) b d 113 2 ml (.int v :: .ref u :: r) t Q = (vtag u = 11 ∧ vc xs zH_113 n true d 113 5 ml r (tsi t u 0 v) Q) := by
  rw [vc_q (o := (26, 0, 11, 0, [])) (by decide +kernel)]; rfl
theorem v_113_5 (xs : Option (List Int32)) (n : Nat) (b : Bool) (d : Nat) (ml : List Value) (t : T) (Q : Option Value → T → Prop) (st : List Value) : vc xs zH_113 (n + 1) b d 113 5 ml st t Q = vga ml 0 (fun v => vc xs zH_113 n true d 113 6 ml (.ref v :: st) t Q) := by
  rw [vc_q (o := (2, 0, 0, 0, [])) (by decide +kernel)]; rfl
theorem v_113_6 (xs : Option (List Int32)) (n : Nat) (b : Bool) (d : Nat) (ml : List Value) (t : T) (Q : Option Value → T → Prop) (st : List Value) : vc xs zH_113 (n + 1) b d 113 6 ml st t Q = vgi ml 2 (fun v => vc xs zH_113 n true d 113 7 ml (.int v :: st) t Q) := by
  rw [vc_q (o := (1, 0, 2, 0, [])) (by decide +kernel)]; rfl
theorem v_113_7 (xs : Option (List Int32)) (n : Nat) (b : Bool) (d : Nat) (ml : List Value) (t : T) (Q : Option Value → T → Prop) (v : Int32) (u : Nat) (r : List Value) : vc xs zH_113 (n + 1) b d 113 7 ml (.int v :: .ref u :: r) t Q = (vtag u = 11 ∧ vc xs zH_113 n true d 113 10 ml r (tsi t u 1 v) Q) := by
  rw [vc_q (o := (26, 0, 11, 1, [])) (by decide +kernel)]; rfl
theorem v_113_10 (xs : Option (List Int32)) (n : Nat) (b : Bool) (d : Nat) (ml : List Value) (t : T) (Q : Option Value → T → Prop) (st : List Value) : vc xs zH_113 (n + 1) b d 113 10 ml st t Q = vga ml 0 (fun v => vc xs zH_113 n true d 113 11 ml (.ref v :: st) t Q) := by
  rw [vc_q (o := (2, 0, 0, 0, [])) (by decide +kernel)]; rfl
theorem v_113_11 (xs : Option (List Int32)) (n : Nat) (b : Bool) (d : Nat) (ml : List Value) (t : T) (Q : Option Value → T → Prop) (st : List Value) : vc xs zH_113 (n + 1) b d 113 11 ml st t Q = vgi ml 3 (fun v => vc xs zH_113 n true d 113 12 ml (.int v :: st) t Q) := by
  rw [vc_q (o := (1, 0, 3, 0, [])) (by decide +kernel)]; rfl
theorem v_113_12 (xs : Option (List Int32)) (n : Nat) (b : Bool) (d : Nat) (ml : List Value) (t : T) (Q : Option Value → T → Prop) (st : List Value) : vc xs zH_113 (n + 1) b d 113 12 ml st t Q = vc xs zH_113 n true d 113 14 ml (.int 15 :: st) t Q := by
  rw [vc_q (o := (0, 15, 1, 0, [])) (by decide +kernel)]; rfl
theorem v_113_14 (xs : Option (List Int32)) (n : Nat) (b : Bool) (d : Nat) (ml : List Value) (t : T) (Q : Option Value → T → Prop) (u v : Int32) (r : List Value) : vc xs zH_113 (n + 1) b d 113 14 ml (.int v :: .int u :: r) t Q = vc xs zH_113 n true d 113 15 ml (.int (u &&& v) :: r) t Q := by
  rw [vc_q (o := (9, 0, 0, 0, [])) (by decide +kernel)]; rfl
theorem v_113_15 (xs : Option (List Int32)) (n : Nat) (b : Bool) (d : Nat) (ml : List Value) (t : T) (Q : Option Value → T → Prop) (v : Int32) (u : Nat) (r : List Value) : vc xs zH_113 (n + 1) b d 113 15 ml (.int v :: .ref u :: r) t Q = (vtag u = 11 ∧ vc xs zH_113 n true d 113 18 ml r (tsi t u 2 v) Q) := by
  rw [vc_q (o := (26, 0, 11, 2, [])) (by decide +kernel)]; rfl
theorem v_113_18 (xs : Option (List Int32)) (n : Nat) (b : Bool) (d : Nat) (ml : List Value) (t : T) (Q : Option Value → T → Prop) (st : List Value) : vc xs zH_113 (n + 1) b d 113 18 ml st t Q = vga ml 0 (fun v => vc xs zH_113 n true d 113 19 ml (.ref v :: st) t Q) := by
  rw [vc_q (o := (2, 0, 0, 0, [])) (by decide +kernel)]; rfl
theorem v_113_19 (xs : Option (List Int32)) (n : Nat) (b : Bool) (d : Nat) (ml : List Value) (t : T) (Q : Option Value → T → Prop) (st : List Value) : vc xs zH_113 (n + 1) b d 113 19 ml st t Q = vgi ml 3 (fun v => vc xs zH_113 n true d 113 20 ml (.int v :: st) t Q) := by
  rw [vc_q (o := (1, 0, 3, 0, [])) (by decide +kernel)]; rfl
theorem v_113_20 (xs : Option (List Int32)) (n : Nat) (b : Bool) (d : Nat) (ml : List Value) (t : T) (Q : Option Value → T → Prop) (st : List Value) : vc xs zH_113 (n + 1) b d 113 20 ml st t Q = vc xs zH_113 n true d 113 21 ml (.int 4 :: st) t Q := by
  rw [vc_q (o := (0, 4, 0, 0, [])) (by decide +kernel)]; rfl
theorem v_113_21 (xs : Option (List Int32)) (n : Nat) (b : Bool) (d : Nat) (ml : List Value) (t : T) (Q : Option Value → T → Prop) (u v : Int32) (r : List Value) : vc xs zH_113 (n + 1) b d 113 21 ml (.int v :: .int u :: r) t Q = vc xs zH_113 n true d 113 22 ml (.int (u >>> (v &&& 31)) :: r) t Q := by
  rw [vc_q (o := (13, 0, 0, 0, [])) (by decide +kernel)]; rfl
theorem v_113_22 (xs : Option (List Int32)) (n : Nat) (b : Bool) (d : Nat) (ml : List Value) (t : T) (Q : Option Value → T → Prop) (st : List Value) : vc xs zH_113 (n + 1) b d 113 22 ml st t Q = vc xs zH_113 n true d 113 24 ml (.int 15 :: st) t Q := by
  rw [vc_q (o := (0, 15, 1, 0, [])) (by decide +kernel)]; rfl
theorem v_113_24 (xs : Option (List Int32)) (n : Nat) (b : Bool) (d : Nat) (ml : List Value) (t : T) (Q : Option Value → T → Prop) (u v : Int32) (r : List Value) : vc xs zH_113 (n + 1) b d 113 24 ml (.int v :: .int u :: r) t Q = vc xs zH_113 n true d 113 25 ml (.int (u &&& v) :: r) t Q := by
  rw [vc_q (o := (9, 0, 0, 0, [])) (by decide +kernel)]; rfl
theorem v_113_25 (xs : Option (List Int32)) (n : Nat) (b : Bool) (d : Nat) (ml : List Value) (t : T) (Q : Option Value → T → Prop) (v : Int32) (u : Nat) (r : List Value) : vc xs zH_113 (n + 1) b d 113 25 ml (.int v :: .ref u :: r) t Q = (vtag u = 11 ∧ vc xs zH_113 n true d 113 28 ml r (tsi t u 3 v) Q) := by
  rw [vc_q (o := (26, 0, 11, 3, [])) (by decide +kernel)]; rfl
theorem v_113_28 (xs : Option (List Int32)) (n : Nat) (b : Bool) (d : Nat) (ml : List Value) (t : T) (Q : Option Value → T → Prop) (st : List Value) : vc xs zH_113 (n + 1) b d 113 28 ml st t Q = vga ml 0 (fun v => vc xs zH_113 n true d 113 29 ml (.ref v :: st) t Q) := by
  rw [vc_q (o := (2, 0, 0, 0, [])) (by decide +kernel)]; rfl
theorem v_113_29 (xs : Option (List Int32)) (n : Nat) (b : Bool) (d : Nat) (ml : List Value) (t : T) (Q : Option Value → T → Prop) (st : List Value) : vc xs zH_113 (n + 1) b d 113 29 ml st t Q = vgi ml 3 (fun v => vc xs zH_113 n true d 113 30 ml (.int v :: st) t Q) := by
  rw [vc_q (o := (1, 0, 3, 0, [])) (by decide +kernel)]; rfl
theorem v_113_30 (xs : Option (List Int32)) (n : Nat) (b : Bool) (d : Nat) (ml : List Value) (t : T) (Q : Option Value → T → Prop) (st : List Value) : vc xs zH_113 (n + 1) b d 113 30 ml st t Q = vc xs zH_113 n true d 113 33 ml (.int 256 :: st) t Q := by
  rw [vc_q (o := (0, 256, 2, 0, [])) (by decide +kernel)]; rfl
theorem v_113_33 (xs : Option (List Int32)) (n : Nat) (b : Bool) (d : Nat) (ml : List Value) (t : T) (Q : Option Value → T → Prop) (u v : Int32) (r : List Value) : vc xs zH_113 (n + 1) b d 113 33 ml (.int v :: .int u :: r) t Q = (if u < v then vc xs zH_113 n true d 113 40 ml r t Q else vc xs zH_113 n true d 113 36 ml r t Q) := by
  rw [vc_q (o := (20, 0, 40, 2, [])) (by decide +kernel)]; rfl
theorem v_113_36 (xs : Option (List Int32)) (n : Nat) (b : Bool) (d : Nat) (ml : List Value) (t : T) (Q : Option Value → T → Prop) (st : List Value) : vc xs zH_113 (n + 1) b d 113 36 ml st t Q = vc xs zH_113 n true d 113 37 ml (.int 1 :: st) t Q := by
  rw [vc_q (o := (0, 1, 0, 0, [])) (by decide +kernel)]; rfl
theorem v_113_37 (xs : Option (List Int32)) (n : Nat) (b : Bool) (d : Nat) (ml : List Value) (t : T) (Q : Option Value → T → Prop) (st : List Value) : vc xs zH_113 (n + 1) b d 113 37 ml st t Q = vc xs zH_113 n true d 113 41 ml st t Q := by
  rw [vc_q (o := (22, 0, 41, 0, [])) (by decide +kernel)]; rfl
theorem v_113_40 (xs : Option (List Int32)) (n : Nat) (b : Bool) (d : Nat) (ml : List Value) (t : T) (Q : Option Value → T → Prop) (st : List Value) : vc xs zH_113 (n + 1) b d 113 40 ml st t Q = vc xs zH_113 n true d 113 41 ml (.int 0 :: st) t Q := by
  rw [vc_q (o := (0, 0, 0, 0, [])) (by decide +kernel)]; rfl
theorem v_113_41 (xs : Option (List Int32)) (n : Nat) (b : Bool) (d : Nat) (ml : List Value) (t : T) (Q : Option Value → T → Prop) (v : Int32) (u : Nat) (r : List Value) : vc xs zH_113 (n + 1) b d 113 41 ml (.int v :: .ref u :: r) t Q = (vtag u = 11 ∧ (v = 0 ∨ v = 1) ∧ vc xs zH_113 n true d 113 44 ml r (tsi t u 4 v) Q) := by
  rw [vc_q (o := (27, 0, 11, 4, [])) (by decide +kernel)]; rfl
theorem v_113_44 (xs : Option (List Int32)) (n : Nat) (b : Bool) (d : Nat) (ml : List Value) (t : T) (Q : Option Value → T → Prop) (st : List Value) : vc xs zH_113 (n + 1) b d 113 44 ml st t Q = vga ml 0 (fun v => vc xs zH_113 n true d 113 45 ml (.ref v :: st) t Q) := by
  rw [vc_q (o := (2, 0, 0, 0, [])) (by decide +kernel)]; rfl
theorem v_113_45 (xs : Option (List Int32)) (n : Nat) (b : Bool) (d : Nat) (ml : List Value) (t : T) (Q : Option Value → T → Prop) (st : List Value) : vc xs zH_113 (n + 1) b d 113 45 ml st t Q = vgi ml 4 (fun v => vc xs zH_113 n true d 113 47 ml (.int v :: st) t Q) := by
  rw [vc_q (o := (1, 0, 4, 1, [])) (by decide +kernel)]; rfl
theorem v_113_47 (xs : Option (List Int32)) (n : Nat) (b : Bool) (d : Nat) (ml : List Value) (t : T) (Q : Option Value → T → Prop) (v : Int32) (u : Nat) (r : List Value) : vc xs zH_113 (n + 1) b d 113 47 ml (.int v :: .ref u :: r) t Q = (vtag u = 11 ∧ vc xs zH_113 n true d 113 50 ml r (tsi t u 5 v) Q) := by
  rw [vc_q (o := (26, 0, 11, 5, [])) (by decide +kernel)]; rfl
theorem v_113_50 (xs : Option (List Int32)) (n : Nat) (b : Bool) (d : Nat) (ml : List Value) (t : T) (Q : Option Value → T → Prop)  : vc xs zH_113 (n + 1) b d 113 50 ml [] t Q = Q none t := by
  rw [vc_q (o := (43, 0, 0, 0, [])) (by decide +kernel)]; rfl
def zH_114 : List Nat := []
theorem v_114_0 (xs : Option (List Int32)) (n : Nat) (b : Bool) (d : Nat) (ml : List Value) (t : T) (Q : Option Value → T → Prop) (st : List Value) : vc xs zH_114 (n + 1) b d 114 0 ml st t Q = vga ml 0 (fun v => vc xs zH_114 n true d 114 1 ml (.ref v :: st) t Q) := by
  rw [vc_q (o := (2, 0, 0, 0, [])) (by decide +kernel)]; rfl
theorem v_114_1 (xs : Option (List Int32)) (n : Nat) (b : Bool) (d : Nat) (ml : List Value) (t : T) (Q : Option Value → T → Prop) (u : Nat) (r : List Value) : vc xs zH_114 (n + 1) b d 114 1 ml (.ref u :: r) t Q = (vtag u = 11 ∧ vc xs zH_114 n true d 114 4 ml (.ref (tref t u 7) :: r) t Q) := by
  rw [vc_q (o := (25, 0, 11, 7, [])) (by decide +kernel)]; rfl
theorem v_114_4 (xs : Option (List Int32)) (n : Nat) (b : Bool) (d : Nat) (ml : List Value) (t : T) (Q : Option Value → T → Prop) (st : List Value) : vc xs zH_114 (n + 1) b d 114 4 ml st t Q = vga ml 0 (fun v => vc xs zH_114 n true d 114 5 ml (.ref v :: st) t Q) := by
  rw [vc_q (o := (2, 0, 0, 0, [])) (by decide +kernel)]; rfl
theorem v_114_5 (xs : Option (List Int32)) (n : Nat) (b : Bool) (d : Nat) (ml : List Value) (t : T) (Q : Option Value → T → Prop) (u : Nat) (r : List Value) : vc xs zH_114 (n + 1) b d 114 5 ml (.ref u :: r) t Q = (vtag u = 11 ∧ vc xs zH_114 n true d 114 8 ml (.int (t.1 u 6) :: r) t Q) := by
  rw [vc_q (o := (24, 0, 11, 6, [])) (by decide +kernel)]; rfl
theorem v_114_8 (xs : Option (List Int32)) (n : Nat) (b : Bool) (d : Nat) (ml : List Value) (t : T) (Q : Option Value → T → Prop) (st : List Value) : vc xs zH_114 (n + 1) b d 114 8 ml st t Q = vgi ml 1 (fun v => vc xs zH_114 n true d 114 9 ml (.int v :: st) t Q) := by
  rw [vc_q (o := (1, 0, 1, 0, [])) (by decide +kernel)]; rfl
theorem v_114_9 (xs : Option (List Int32)) (n : Nat) (b : Bool) (d : Nat) (ml : List Value) (t : T) (Q : Option Value → T → Prop) (w v : Int32) (u : Nat) (r : List Value) : vc xs zH_114 (n + 1) b d 114 9 ml (.int w :: .int v :: .ref u :: r) t Q = (vtag u = 100 ∧ vinb v (vlen u) ∧ vc xs zH_114 n true d 114 10 ml r (tsi t u v.toNatClampNeg w) Q) := by
  rw [vc_q (o := (32, 0, 0, 0, [])) (by decide +kernel)]; rfl
theorem v_114_10 (xs : Option (List Int32)) (n : Nat) (b : Bool) (d : Nat) (ml : List Value) (t : T) (Q : Option Value → T → Prop) (st : List Value) : vc xs zH_114 (n + 1) b d 114 10 ml st t Q = vga ml 0 (fun v => vc xs zH_114 n true d 114 11 ml (.ref v :: st) t Q) := by
  rw [vc_q (o := (2, 0, 0, 0, [])) (by decide +kernel)]; rfl
theorem v_114_11 (xs : Option (List Int32)) (n : Nat) (b : Bool) (d : Nat) (ml : List Value) (t : T) (Q : Option Value → T → Prop) (u : Nat) (r : List Value) : vc xs zH_114 (n + 1) b d 114 11 ml (.ref u :: r) t Q = (vtag u = 11 ∧ vc xs zH_114 n true d 114 14 ml (.ref (tref t u 8) :: r) t Q) := by
  rw [vc_q (o := (25, 0, 11, 8, [])) (by decide +kernel)]; rfl
theorem v_114_14 (xs : Option (List Int32)) (n : Nat) (b : Bool) (d : Nat) (ml : List Value) (t : T) (Q : Option Value → T → Prop) (st : List Value) : vc xs zH_114 (n + 1) b d 114 14 ml st t Q = vga ml 0 (fun v => vc xs zH_114 n true d 114 15 ml (.ref v :: st) t Q) := by
  rw [vc_q (o := (2, 0, 0, 0, [])) (by decide +kernel)]; rfl
theorem v_114_15 (xs : Option (List Int32)) (n : Nat) (b : Bool) (d : Nat) (ml : List Value) (t : T) (Q : Option Value → T → Prop) (u : Nat) (r : List Value) : vc xs zH_114 (n + 1) b d 114 15 ml (.ref u :: r) t Q = (vtag u = 11 ∧ vc xs zH_114 n true d 114 18 ml (.int (t.1 u 6) :: r) t Q) := by
  rw [vc_q (o := (24, 0, 11, 6, [])) (by decide +kernel)]; rfl
theorem v_114_18 (xs : Option (List Int32)) (n : Nat) (b : Bool) (d : Nat) (ml : List Value) (t : T) (Q : Option Value → T → Prop) (st : List Value) : vc xs zH_114 (n + 1) b d 114 18 ml st t Q = vgi ml 2 (fun v => vc xs zH_114 n true d 114 19 ml (.int v :: st) t Q) := by
  rw [vc_q (o := (1, 0, 2, 0, [])) (by decide +kernel)]; rfl
theorem v_114_19 (xs : Option (List Int32)) (n : Nat) (b : Bool) (d : Nat) (ml : List Value) (t : T) (Q : Option Value → T → Prop) (w v : Int32) (u : Nat) (r : List Value) : vc xs zH_114 (n + 1) b d 114 19 ml (.int w :: .int v :: .ref u :: r) t Q = (vtag u = 100 ∧ vinb v (vlen u) ∧ vc xs zH_114 n true d 114 20 ml r (tsi t u v.toNatClampNeg w) Q) := by
  rw [vc_q (o := (32, 0, 0, 0, [])) (by decide +kernel)]; rfl
theorem v_114_20 (xs : Option (List Int32)) (n : Nat) (b : Bool) (d : Nat) (ml : List Value) (t : T) (Q : Option Value → T → Prop) (st : List Value) : vc xs zH_114 (n + 1) b d 114 20 ml st t Q = vga ml 0 (fun v => vc xs zH_114 n true d 114 21 ml (.ref v :: st) t Q) := by
  rw [vc_q (o := (2, 0, 0, 0, [])) (by decide +kernel)]; rfl
theorem v_114_21_int (xs : Option (List Int32)) (n : Nat) (b : Bool) (d : Nat) (ml : List Value) (t : T) (Q : Option Value → T → Prop) (v : Int32) (r : List Value) : vc xs zH_114 (n + 1) b d 114 21 ml (.int v :: r) t Q = vc xs zH_114 n true d 114 22 ml (.int v :: .int v :: r) t Q := by
  rw [vc_q (o := (17, 0, 0, 0, [])) (by decide +kernel)]; rfl
theorem v_114_21_ref (xs : Option (List Int32)) (n : Nat) (b : Bool) (d : Nat) (ml : List Value) (t : T) (Q : Option Value → T → Prop) (v : Nat) (r : List Value) : vc xs zH_114 (n + 1) b d 114 21 ml (.ref v :: r) t Q = vc xs zH_114 n true d 114 22 ml (.ref v :: .ref v :: r) t Q := by
  rw [vc_q (o := (17, 0, 0, 0, [])) (by decide +kernel)]; rfl
theorem v_114_22 (xs : Option (List Int32)) (n : Nat) (b : Bool) (d : Nat) (ml : List Value) (t : T) (Q : Option Value → T → Prop) (u : Nat) (r : List Value) : vc xs zH_114 (n + 1) b d 114 22 ml (.ref u :: r) t Q = (vtag u = 11 ∧ vc xs zH_114 n true d 114 25 ml (.int (t.1 u 6) :: r) t Q) := by
  rw [vc_q (o := (24, 0, 11, 6, [])) (by decide +kernel)]; rfl
theorem v_114_25 (xs : Option (List Int32)) (n : Nat) (b : Bool) (d : Nat) (ml : List Value) (t : T) (Q : Option Value → T → Prop) (st : List Value) : vc xs zH_114 (n + 1) b d 114 25 ml st t Q = vc xs zH_114 n true d 114 26 ml (.int 1 :: st) t Q := by
  rw [vc_q (o := (0, 1, 0, 0, [])) (by decide +kernel)]; rfl
theorem v_114_26 (xs : Option (List Int32)) (n : Nat) (b : Bool) (d : Nat) (ml : List Value) (t : T) (Q : Option Value → T → Prop) (u v : Int32) (r : List Value) : vc xs zH_114 (n + 1) b d 114 26 ml (.int v :: .int u :: r) t Q = vc xs zH_114 n true d 114 27 ml (.int (u + v) :: r) t Q := by
  rw [vc_q (o := (6, 0, 0, 0, [])) (by decide +kernel)]; rfl
theorem v_114_27 (xs : Option (List Int32)) (n : Nat) (b : Bool) (d : Nat) (ml : List Value) (t : T) (Q : Option Value → T → Prop) (v : Int32) (u : Nat) (r : List Value) : vc xs zH_114 (n + 1) b d 114 27 ml (.int v :: .ref u :: r) t Q = (vtag u = 11 ∧ vc xs zH_114 n true d 114 30 ml r (tsi t u 6 v) Q) := by
  rw [vc_q (o := (26, 0, 11, 6, [])) (by decide +kernel)]; rfl
theorem v_114_30 (xs : Option (List Int32)) (n : Nat) (b : Bool) (d : Nat) (ml : List Value) (t : T) (Q : Option Value → T → Prop) (st : List Value) : vc xs zH_114 (n + 1) b d 114 30 ml st t Q = vga ml 0 (fun v => vc xs zH_114 n true d 114 31 ml (.ref v :: st) t Q) := by
  rw [vc_q (o := (2, 0, 0, 0, [])) (by decide +kernel)]; rfl
theorem v_114_31 (xs : Option (List Int32)) (n : Nat) (b : Bool) (d : Nat) (ml : List Value) (t : T) (Q : Option Value → T → Prop) (u : Nat) (r : List Value) : vc xs zH_114 (n + 1) b d 114 31 ml (.ref u :: r) t Q = (vtag u = 11 ∧ vc xs zH_114 n true d 114 34 ml (.int (t.1 u 6) :: r) t Q) := by
  rw [vc_q (o := (24, 0, 11, 6, [])) (by decide +kernel)]; rfl
theorem v_114_34 (xs : Option (List Int32)) (n : Nat) (b : Bool) (d : Nat) (ml : List Value) (t : T) (Q : Option Value → T → Prop) (v : Int32) : vc xs zH_114 (n + 1) b d 114 34 ml [.int v] t Q = Q (some (.int v)) t := by
  rw [vc_q (o := (40, 0, 0, 0, [])) (by decide +kernel)]; rfl
def zH_116 : List Nat := []
theorem v_116_0 (xs : Option (List Int32)) (n : Nat) (b : Bool) (d : Nat) (ml : List Value) (t : T) (Q : Option Value → T → Prop) (st : List Value) : vc xs zH_116 (n + 1) b d 116 0 ml st t Q = vga ml 0 (fun v => vc xs zH_116 n true d 116 1 ml (.ref v :: st) t Q) := by
  rw [vc_q (o := (2, 0, 0, 0, [])) (by decide +kernel)]; rfl
theorem v_116_1 (xs : Option (List Int32)) (n : Nat) (b : Bool) (d : Nat) (ml : List Value) (t : T) (Q : Option Value → T → Prop) (st : List Value) : vc xs zH_116 (n + 1) b d 116 1 ml st t Q = vga ml 1 (fun v => vc xs zH_116 n true d 116 2 ml (.ref v :: st) t Q) := by
  rw [vc_q (o := (2, 0, 1, 0, [])) (by decide +kernel)]; rfl
theorem v_116_2 (xs : Option (List Int32)) (n : Nat) (b : Bool) (d : Nat) (ml : List Value) (t : T) (Q : Option Value → T → Prop) (v : Nat) (u : Nat) (r : List Value) : vc xs zH_116 (n + 1) b d 116 2 ml (.ref v :: .ref u :: r) t Q = (vtag u = 10 ∧ tmut u 2 = true ∧ vc xs zH_116 n true d 116 5 ml r (tsr t u 2 v) Q) := by
  rw [vc_q (o := (28, 0, 10, 2, [])) (by decide +kernel)]; rfl
theorem v_116_5 (xs : Option (List Int32)) (n : Nat) (b : Bool) (d : Nat) (ml : List Value) (t : T) (Q : Option Value → T → Prop) (st : List Value) : vc xs zH_116 (n + 1) b d 116 5 ml st t Q = vga ml 0 (fun v => vc xs zH_116 n true d 116 6 ml (.ref v :: st) t Q) := by
  rw [vc_q (o := (2, 0, 0, 0, [])) (by decide +kernel)]; rfl
theorem v_116_6 (xs : Option (List Int32)) (n : Nat) (b : Bool) (d : Nat) (ml : List Value) (t : T) (Q : Option Value → T → Prop) (st : List Value) : vc xs zH_116 (n + 1) b d 116 6 ml st t Q = vga ml 2 (fun v => vc xs zH_116 n true d 116 7 ml (.ref v :: st) t Q) := by
  rw [vc_q (o := (2, 0, 2, 0, [])) (by decide +kernel)]; rfl
theorem v_116_7 (xs : Option (List Int32)) (n : Nat) (b : Bool) (d : Nat) (ml : List Value) (t : T) (Q : Option Value → T → Prop) (v : Nat) (u : Nat) (r : List Value) : vc xs zH_116 (n + 1) b d 116 7 ml (.ref v :: .ref u :: r) t Q = (vtag u = 10 ∧ tmut u 3 = true ∧ vc xs zH_116 n true d 116 10 ml r (tsr t u 3 v) Q) := by
  rw [vc_q (o := (28, 0, 10, 3, [])) (by decide +kernel)]; rfl
theorem v_116_10 (xs : Option (List Int32)) (n : Nat) (b : Bool) (d : Nat) (ml : List Value) (t : T) (Q : Option Value → T → Prop) (st : List Value) : vc xs zH_116 (n + 1) b d 116 10 ml st t Q = vga ml 0 (fun v => vc xs zH_116 n true d 116 11 ml (.ref v :: st) t Q) := by
  rw [vc_q (o := (2, 0, 0, 0, [])) (by decide +kernel)]; rfl
theorem v_116_11 (xs : Option (List Int32)) (n : Nat) (b : Bool) (d : Nat) (ml : List Value) (t : T) (Q : Option Value → T → Prop) (u : Nat) (r : List Value) : vc xs zH_116 (n + 1) b d 116 11 ml (.ref u :: r) t Q = (vtag u = 10 ∧ vc xs zH_116 n true d 116 14 ml (.ref (tref t u 1) :: r) t Q) := by
  rw [vc_q (o := (25, 0, 10, 1, [])) (by decide +kernel)]; rfl
theorem v_116_14 (xs : Option (List Int32)) (n : Nat) (b : Bool) (d : Nat) (ml : List Value) (t : T) (Q : Option Value → T → Prop) (st : List Value) : vc xs zH_116 (n + 1) b d 116 14 ml st t Q = vc xs zH_116 n true d 116 15 ml (.int 0 :: st) t Q := by
  rw [vc_q (o := (0, 0, 0, 0, [])) (by decide +kernel)]; rfl
theorem v_116_15 (xs : Option (List Int32)) (n : Nat) (b : Bool) (d : Nat) (ml : List Value) (t : T) (Q : Option Value → T → Prop) (st : List Value) : vc xs zH_116 (n + 1) b d 116 15 ml st t Q = (st.all zc1 = true ∧ vtk 2 st [] (fun as rest => rest.length ≤ 8 ∧ twc d 172 as t (fun r t' => vc xs zH_116 n true d 116 18 ml (r.toList ++ rest) t' Q))) := by
  rw [vc_q (o := (37, 0, 172, 2, [])) (by decide +kernel)]; rfl
theorem v_116_18 (xs : Option (List Int32)) (n : Nat) (b : Bool) (d : Nat) (ml : List Value) (t : T) (Q : Option Value → T → Prop) (st : List Value) : vc xs zH_116 (n + 1) b d 116 18 ml st t Q = vga ml 0 (fun v => vc xs zH_116 n true d 116 19 ml (.ref v :: st) t Q) := by
  rw [vc_q (o := (2, 0, 0, 0, [])) (by decide +kernel)]; rfl
theorem v_116_19 (xs : Option (List Int32)) (n : Nat) (b : Bool) (d : Nat) (ml : List Value) (t : T) (Q : Option Value → T → Prop) (st : List Value) : vc xs zH_116 (n + 1) b d 116 19 ml st t Q = vc xs zH_116 n true d 116 20 ml (.int 0 :: st) t Q := by
  rw [vc_q (o := (0, 0, 0, 0, [])) (by decide +kernel)]; rfl
theorem v_116_20 (xs : Option (List Int32)) (n : Nat) (b : Bool) (d : Nat) (ml : List Value) (t : T) (Q : Option Value → T → Prop) (st : List Value) : vc xs zH_116 (n + 1) b d 116 20 ml st t Q = vc xs zH_116 n true d 116 21 ml (.int 0 :: st) t Q := by
  rw [vc_q (o := (0, 0, 0, 0, [])) (by decide +kernel)]; rfl
theorem v_116_21 (xs : Option (List Int32)) (n : Nat) (b : Bool) (d : Nat) (ml : List Value) (t : T) (Q : Option Value → T → Prop) (st : List Value) : vc xs zH_116 (n + 1) b d 116 21 ml st t Q = vc xs zH_116 n true d 116 22 ml (.int 0 :: st) t Q := by
  rw [vc_q (o := (0, 0, 0, 0, [])) (by decide +kernel)]; rfl
theorem v_116_22 (xs : Option (List Int32)) (n : Nat) (b : Bool) (d : Nat) (ml : List Value) (t : T) (Q : Option Value → T → Prop) (st : List Value) : vc xs zH_116 (n + 1) b d 116 22 ml st t Q = vc xs zH_116 n true d 116 23 ml (.int 0 :: st) t Q := by
  rw [vc_q (o := (0, 0, 0, 0, [])) (by decide +kernel)]; rfl
theorem v_116_23 (xs : Option (List Int32)) (n : Nat) (b : Bool) (d : Nat) (ml : List Value) (t : T) (Q : Option Value → T → Prop) (st : List Value) : vc xs zH_116 (n + 1) b d 116 23 ml st t Q = vc xs zH_116 n true d 116 24 ml (.int 0 :: st) t Q := by
  rw [vc_q (o := (0, 0, 0, 0, [])) (by decide +kernel)]; rfl
theorem v_116_24 (xs : Option (List Int32)) (n : Nat) (b : Bool) (d : Nat) (ml : List Value) (t : T) (Q : Option Value → T → Prop) (st : List Value) : vc xs zH_116 (n + 1) b d 116 24 ml st t Q = (st.all zc1 = true ∧ vtk 6 st [] (fun as rest => rest.length ≤ 8 ∧ vrc as 10 (twc d 120 as t (fun r t' => vc xs zH_116 n true d 116 27 ml (r.toList ++ rest) t' Q)))) := by
  rw [vc_q (o := (36, 0, 120, 5, [(0, 10)])) (by decide +kernel)]; rfl
theorem v_116_27 (xs : Option (List Int32)) (n : Nat) (b : Bool) (d : Nat) (ml : List Value) (t : T) (Q : Option Value → T → Prop) (u : Int32) (r : List Value) : vc xs zH_116 (n + 1) b d 116 27 ml (.int u :: r) t Q = (if u = 0 then vc xs zH_116 n true d 116 58 ml r t Q else vc xs zH_116 n true d 116 30 ml r t Q) := by
  rw [vc_q (o := (21, 0, 58, 0, [])) (by decide +kernel)]; rfl
theorem v_116_30 (xs : Option (List Int32)) (n : Nat) (b : Bool) (d : Nat) (ml : List Value) (t : T) (Q : Option Value → T → Prop) (st : List Value) : vc xs zH_116 (n + 1) b d 116 30 ml st t Q = vga ml 0 (fun v => vc xs zH_116 n true d 116 31 ml (.ref v :: st) t Q) := by
  rw [vc_q (o := (2, 0, 0, 0, [])) (by decide +kernel)]; rfl
theorem v_116_31 (xs : Option (List Int32)) (n : Nat) (b : Bool) (d : Nat) (ml : List Value) (t : T) (Q : Option Value → T → Prop) (st : List Value) : vc xs zH_116 (n + 1) b d 116 31 ml st t Q = vc xs zH_116 n true d 116 32 ml (.int 1 :: st) t Q := by
  rw [vc_q (o := (0, 1, 0, 0, [])) (by decide +kernel)]; rfl
theorem v_116_32 (xs : Option (List Int32)) (n : Nat) (b : Bool) (d : Nat) (ml : List Value) (t : T) (Q : Option Value → T → Prop) (st : List Value) : vc xs zH_116 (n + 1) b d 116 32 ml st t Q = vc xs zH_116 n true d 116 33 ml (.int 0 :: st) t Q := by
  rw [vc_q (o := (0, 0, 0, 0, [])) (by decide +kernel)]; rfl
theorem v_116_33 (xs : Option (List Int32)) (n : Nat) (b : Bool) (d : Nat) (ml : List Value) (t : T) (Q : Option Value → T → Prop) (st : List Value) : vc xs zH_116 (n + 1) b d 116 33 ml st t Q = vc xs zH_116 n true d 116 34 ml (.int 0 :: st) t Q := by
  rw [vc_q (o := (0, 0, 0, 0, [])) (by decide +kernel)]; rfl
theorem v_116_34 (xs : Option (List Int32)) (n : Nat) (b : Bool) (d : Nat) (ml : List Value) (t : T) (Q : Option Value → T → Prop) (st : List Value) : vc xs zH_116 (n + 1) b d 116 34 ml st t Q = vc xs zH_116 n true d 116 35 ml (.int 0 :: st) t Q := by
  rw [vc_q (o := (0, 0, 0, 0, [])) (by decide +kernel)]; rfl
theorem v_116_35 (xs : Option (List Int32)) (n : Nat) (b : Bool) (d : Nat) (ml : List Value) (t : T) (Q : Option Value → T → Prop) (st : List Value) : vc xs zH_116 (n + 1) b d 116 35 ml st t Q = vc xs zH_116 n true d 116 36 ml (.int 0 :: st) t Q := by
  rw [vc_q (o := (0, 0, 0, 0, [])) (by decide +kernel)]; rfl
theorem v_116_36 (xs : Option (List Int32)) (n : Nat) (b : Bool) (d : Nat) (ml : List Value) (t : T) (Q : Option Value → T → Prop) (st : List Value) : vc xs zH_116 (n + 1) b d 116 36 ml st t Q = (st.all zc1 = true ∧ vtk 6 st [] (fun as rest => rest.length ≤ 8 ∧ vrc as 10 (twc d 120 as t (fun r t' => vc xs zH_116 n true d 116 39 ml (r.toList ++ rest) t' Q)))) := by
  rw [vc_q (o := (36, 0, 120, 5, [(0, 10)])) (by decide +kernel)]; rfl
theorem v_116_39 (xs : Option (List Int32)) (n : Nat) (b : Bool) (d : Nat) (ml : List Value) (t : T) (Q : Option Value → T → Prop) (u : Int32) (r : List Value) : vc xs zH_116 (n + 1) b d 116 39 ml (.int u :: r) t Q = (if u = 0 then vc xs zH_116 n true d 116 58 ml r t Q else vc xs zH_116 n true d 116 42 ml r t Q) := by
  rw [vc_q (o := (21, 0, 58, 0, [])) (by decide +kernel)]; rfl
theorem v_116_42 (xs : Option (List Int32)) (n : Nat) (b : Bool) (d : Nat) (ml : List Value) (t : T) (Q : Option Value → T → Prop) (st : List Value) : vc xs zH_116 (n + 1) b d 116 42 ml st t Q = vga ml 0 (fun v => vc xs zH_116 n true d 116 43 ml (.ref v :: st) t Q) := by
  rw [vc_q (o := (2, 0, 0, 0, [])) (by decide +kernel)]; rfl
theorem v_116_43 (xs : Option (List Int32)) (n : Nat) (b : Bool) (d : Nat) (ml : List Value) (t : T) (Q : Option Value → T → Prop) (st : List Value) : vc xs zH_116 (n + 1) b d 116 43 ml st t Q = vc xs zH_116 n true d 116 44 ml (.int 0 :: st) t Q := by
  rw [vc_q (o := (0, 0, 0, 0, [])) (by decide +kernel)]; rfl
theorem v_116_44 (xs : Option (List Int32)) (n : Nat) (b : Bool) (d : Nat) (ml : List Value) (t : T) (Q : Option Value → T → Prop) (st : List Value) : vc xs zH_116 (n + 1) b d 116 44 ml st t Q = vga ml 2 (fun v => vc xs zH_116 n true d 116 45 ml (.ref v :: st) t Q) := by
  rw [vc_q (o := (2, 0, 2, 0, [])) (by decide +kernel)]; rfl
theorem v_116_45 (xs : Option (List Int32)) (n : Nat) (b : Bool) (d : Nat) (ml : List Value) (t : T) (Q : Option Value → T → Prop) (u : Nat) (r : List Value) : vc xs zH_116 (n + 1) b d 116 45 ml (.ref u :: r) t Q = (vtag u = 4 ∧ vc xs zH_116 n true d 116 48 ml (.int (t.1 u 0) :: r) t Q) := by
  rw [vc_q (o := (24, 0, 4, 0, [])) (by decide +kernel)]; rfl
theorem v_116_48 (xs : Option (List Int32)) (n : Nat) (b : Bool) (d : Nat) (ml : List Value) (t : T) (Q : Option Value → T → Prop) (st : List Value) : vc xs zH_116 (n + 1) b d 116 48 ml st t Q = (st.all zc1 = true ∧ vtk 3 st [] (fun as rest => rest.length ≤ 8 ∧ vrc as 10 (twc d 117 as t (fun r t' => vc xs zH_116 n true d 116 51 ml (r.toList ++ rest) t' Q)))) := by
  rw [vc_q (o := (36, 0, 117, 2, [(0, 10)])) (by decide +kernel)]; rfl
theorem v_116_51 (xs : Option (List Int32)) (n : Nat) (b : Bool) (d : Nat) (ml : List Value) (t : T) (Q : Option Value → T → Prop) (u : Int32) (r : List Value) : vc xs zH_116 (n + 1) b d 116 51 ml (.int u :: r) t Q = (if u = 0 then vc xs zH_116 n true d 116 58 ml r t Q else vc xs zH_116 n true d 116 54 ml r t Q) := by
  rw [vc_q (o := (21, 0, 58, 0, [])) (by decide +kernel)]; rfl
theorem v_116_54 (xs : Option (List Int32)) (n : Nat) (b : Bool) (d : Nat) (ml : List Value) (t : T) (Q : Option Value → T → Prop) (st : List Value) : vc xs zH_116 (n + 1) b d 116 54 ml st t Q = vc xs zH_116 n true d 116 55 ml (.int 1 :: st) t Q := by
  rw [vc_q (o := (0, 1, 0, 0, [])) (by decide +kernel)]; rfl
theorem v_116_55 (xs : Option (List Int32)) (n : Nat) (b : Bool) (d : Nat) (ml : List Value) (t : T) (Q : Option Value → T → Prop) (st : List Value) : vc xs zH_116 (n + 1) b d 116 55 ml st t Q = vc xs zH_116 n true d 116 59 ml st t Q := by
  rw [vc_q (o := (22, 0, 59, 0, [])) (by decide +kernel)]; rfl
theorem v_116_58 (xs : Option (List Int32)) (n : Nat) (b : Bool) (d : Nat) (ml : List Value) (t : T) (Q : Option Value → T → Prop) (st : List Value) : vc xs zH_116 (n + 1) b d 116 58 ml st t Q = vc xs zH_116 n true d 116 59 ml (.int 0 :: st) t Q := by
  rw [vc_q (o := (0, 0, 0, 0, [])) (by decide +kernel)]; rfl
theorem v_116_59 (xs : Option (List Int32)) (n : Nat) (b : Bool) (d : Nat) (ml : List Value) (t : T) (Q : Option Value → T → Prop) (v : Int32) : vc xs zH_116 (n + 1) b d 116 59 ml [.int v] t Q = ((v = 0 ∨ v = 1) ∧ Q (some (.int v)) t) := by
  rw [vc_q (o := (41, 0, 0, 0, [])) (by decide +kernel)]; rfl
def zH_117 : List Nat := [26]
theorem v_117_0 (xs : Option (List Int32)) (n : Nat) (b : Bool) (d : Nat) (ml : List Value) (t : T) (Q : Option Value → T → Prop) (st : List Value) : vc xs zH_117 (n + 1) b d 117 0 ml st t Q = vga ml 0 (fun v => vc xs zH_117 n true d 117 1 ml (.ref v :: st) t Q) := by
  rw [vc_q (o := (2, 0, 0, 0, [])) (by decide +kernel)]; rfl
theorem v_117_1 (xs : Option (List Int32)) (n : Nat) (b : Bool) (d : Nat) (ml : List Value) (t : T) (Q : Option Value → T → Prop) (u : Nat) (r : List Value) : vc xs zH_117 (n + 1) b d 117 1 ml (.ref u :: r) t Q = (vtag u = 10 ∧ vc xs zH_117 n true d 117 4 ml (.ref (tref t u 2) :: r) t Q) := by
  rw [vc_q (o := (25, 0, 10, 2, [])) (by decide +kernel)]; rfl
theorem v_117_4 (xs : Option (List Int32)) (n : Nat) (b : Bool) (d : Nat) (ml : List Value) (t : T) (Q : Option Value → T → Prop) (u : Nat) (r : List Value) : vc xs zH_117 (n + 1) b d 117 4 ml (.ref u :: r) t Q = (vtag u = 4 ∧ vc xs zH_117 n true d 117 7 ml (.int (t.1 u 0) :: r) t Q) := by
  rw [vc_q (o := (24, 0, 4, 0, [])) (by decide +kernel)]; rfl
theorem v_117_7 (xs : Option (List Int32)) (n : Nat) (b : Bool) (d : Nat) (ml : List Value) (t : T) (Q : Option Value → T → Prop) (st : List Value) : vc xs zH_117 (n + 1) b d 117 7 ml st t Q = vgi ml 1 (fun v => vc xs zH_117 n true d 117 8 ml (.int v :: st) t Q) := by
  rw [vc_q (o := (1, 0, 1, 0, [])) (by decide +kernel)]; rfl
theorem v_117_8 (xs : Option (List Int32)) (n : Nat) (b : Bool) (d : Nat) (ml : List Value) (t : T) (Q : Option Value → T → Prop) (u v : Int32) (r : List Value) : vc xs zH_117 (n + 1) b d 117 8 ml (.int v :: .int u :: r) t Q = vc xs zH_117 n true d 117 9 ml (.int (u - v) :: r) t Q := by
  rw [vc_q (o := (7, 0, 0, 0, [])) (by decide +kernel)]; rfl
theorem v_117_9 (xs : Option (List Int32)) (n : Nat) (b : Bool) (d : Nat) (ml : List Value) (t : T) (Q : Option Value → T → Prop) (v : Int32) (r : List Value) : vc xs zH_117 (n + 1) b d 117 9 ml (.int v :: r) t Q = vset ml 3 (.int v) (fun l => vc xs zH_117 n true d 117 10 l r t Q) := by
  rw [vc_q (o := (3, 0, 3, 0, [])) (by decide +kernel)]; rfl
theorem v_117_10 (xs : Option (List Int32)) (n : Nat) (b : Bool) (d : Nat) (ml : List Value) (t : T) (Q : Option Value → T → Prop) (st : List Value) : vc xs zH_117 (n + 1) b d 117 10 ml st t Q = vgi ml 2 (fun v => vc xs zH_117 n true d 117 11 ml (.int v :: st) t Q) := by
  rw [vc_q (o := (1, 0, 2, 0, [])) (by decide +kernel)]; rfl
theorem v_117_11 (xs : Option (List Int32)) (n : Nat) (b : Bool) (d : Nat) (ml : List Value) (t : T) (Q : Option Value → T → Prop) (st : List Value) : vc xs zH_117 (n + 1) b d 117 11 ml st t Q = vgi ml 3 (fun v => vc xs zH_117 n true d 117 12 ml (.int v :: st) t Q) := by
  rw [vc_q (o := (1, 0, 3, 0, [])) (by decide +kernel)]; rfl
theorem v_117_12 (xs : Option (List Int32)) (n : Nat) (b : Bool) (d : Nat) (ml : List Value) (t : T) (Q : Option Value → T → Prop) (u v : Int32) (r : List Value) : vc xs zH_117 (n + 1) b d 117 12 ml (.int v :: .int u :: r) t Q = (if v < u then vc xs zH_117 n true d 117 15 ml r t Q else vc xs zH_117 n true d 117 17 ml r t Q) := by
  rw [vc_q (o := (20, 0, 17, 5, [])) (by decide +kernel)]; rfl
theorem v_117_15 (xs : Option (List Int32)) (n : Nat) (b : Bool) (d : Nat) (ml : List Value) (t : T) (Q : Option Value → T → Prop) (st : List Value) : vc xs zH_117 (n + 1) b d 117 15 ml st t Q = vc xs zH_117 n true d 117 16 ml (.int 0 :: st) t Q := by
  rw [vc_q (o := (0, 0, 0, 0, [])) (by decide +kernel)]; rfl
theorem v_117_16 (xs : Option (List Int32)) (n : Nat) (b : Bool) (d : Nat) (ml : List Value) (t : T) (Q : Option Value → T → Prop) (v : Int32) : vc xs zH_117 (n + 1) b d 117 16 ml [.int v] t Q = ((v = 0 ∨ v = 1) ∧ Q (some (.int v)) t) := by
  rw [vc_q (o := (41, 0, 0, 0, [])) (by decide +kernel)]; rfl
theorem v_117_17 (xs : Option (List Int32)) (n : Nat) (b : Bool) (d : Nat) (ml : List Value) (t : T) (Q : Option Value → T → Prop) (st : List Value) : vc xs zH_117 (n + 1) b d 117 17 ml st t Q = vgi ml 3 (fun v => vc xs zH_117 n true d 117 18 ml (.int v :: st) t Q) := by
  rw [vc_q (o := (1, 0, 3, 0, [])) (by decide +kernel)]; rfl
theorem v_117_18 (xs : Option (List Int32)) (n : Nat) (b : Bool) (d : Nat) (ml : List Value) (t : T) (Q : Option Value → T → Prop) (u : Int32) (r : List Value) : vc xs zH_117 (n + 1) b d 117 18 ml (.int u :: r) t Q = (if 0 < u then vc xs zH_117 n true d 117 23 ml r t Q else vc xs zH_117 n true d 117 21 ml r t Q) := by
  rw [vc_q (o := (21, 0, 23, 4, [])) (by decide +kernel)]; rfl
theorem v_117_21 (xs : Option (List Int32)) (n : Nat) (b : Bool) (d : Nat) (ml : List Value) (t : T) (Q : Option Value → T → Prop) (st : List Value) : vc xs zH_117 (n + 1) b d 117 21 ml st t Q = vc xs zH_117 n true d 117 22 ml (.int 1 :: st) t Q := by
  rw [vc_q (o := (0, 1, 0, 0, [])) (by decide +kernel)]; rfl
theorem v_117_22 (xs : Option (List Int32)) (n : Nat) (b : Bool) (d : Nat) (ml : List Value) (t : T) (Q : Option Value → T → Prop) (v : Int32) : vc xs zH_117 (n + 1) b d 117 22 ml [.int v] t Q = ((v = 0 ∨ v = 1) ∧ Q (some (.int v)) t) := by
  rw [vc_q (o := (41, 0, 0, 0, [])) (by decide +kernel)]; rfl
theorem v_117_23 (xs : Option (List Int32)) (n : Nat) (b : Bool) (d : Nat) (ml : List Value) (t : T) (Q : Option Value → T → Prop) (st : List Value) : vc xs zH_117 (n + 1) b d 117 23 ml st t Q = vc xs zH_117 n true d 117 24 ml (.int 0 :: st) t Q := by
  rw [vc_q (o := (0, 0, 0, 0, [])) (by decide +kernel)]; rfl
theorem v_117_24 (xs : Option (List Int32)) (n : Nat) (b : Bool) (d : Nat) (ml : List Value) (t : T) (Q : Option Value → T → Prop) (v : Int32) (r : List Value) : vc xs zH_117 (n + 1) b d 117 24 ml (.int v :: r) t Q = vset ml 4 (.int v) (fun l => vc xs zH_117 n true d 117 26 l r t Q) := by
  rw [vc_q (o := (3, 0, 4, 1, [])) (by decide +kernel)]; rfl
theorem v_117_26 (xs : Option (List Int32)) (n : Nat) (d : Nat) (ml : List Value) (t : T) (Q : Option Value → T → Prop) (st : List Value) : vc xs zH_117 (n + 1) false d 117 26 ml st t Q = vgi ml 4 (fun v => vc xs zH_117 n true d 117 28 ml (.int v :: st) t Q) := by
  rw [vc_q (o := (1, 0, 4, 1, [])) (by decide +kernel)]; rfl
theorem h_117_26 (xs : Option (List Int32)) (n d : Nat) (ml st : List Value) (t : T) (Q : Option Value → T → Prop) : vc xs zH_117 (n + 1) true d 117 26 ml st t Q = twp xs d 117 26 ml st t Q := id rfl
theorem v_117_28 (xs : Option (List Int32)) (n : Nat) (b : Bool) (d : Nat) (ml : List Value) (t : T) (Q : Option Value → T → Prop) (st : List Value) : vc xs zH_117 (n + 1) b d 117 28 ml st t Q = vga ml 0 (fun v => vc xs zH_117 n true d 117 29 ml (.ref v :: st) t Q) := by
  rw [vc_q (o := (2, 0, 0, 0, [])) (by decide +kernel)]; rfl
theorem v_117_29 (xs : Option (List Int32)) (n : Nat) (b : Bool) (d : Nat) (ml : List Value) (t : T) (Q : Option Value → T → Prop) (u : Nat) (r : List Value) : vc xs zH_117 (n + 1) b d 117 29 ml (.ref u :: r) t Q = (vtag u = 10 ∧ vc xs zH_117 n true d 117 32 ml (.ref (tref t u 3) :: r) t Q) := by
  rw [vc_q (o := (25, 0, 10, 3, [])) (by decide +kernel)]; rfl
theorem v_117_32 (xs : Option (List Int32)) (n : Nat) (b : Bool) (d : Nat) (ml : List Value) (t : T) (Q : Option Value → T → Prop) (u : Nat) (r : List Value) : vc xs zH_117 (n + 1) b d 117 32 ml (.ref u :: r) t Q = (vtag u = 4 ∧ vc xs zH_117 n true d 117 35 ml (.int (t.1 u 0) :: r) t Q) := by
  rw [vc_q (o := (24, 0, 4, 0, [])) (by decide +kernel)]; rfl
theorem v_117_35 (xs : Option (List Int32)) (n : Nat) (b : Bool) (d : Nat) (ml : List Value) (t : T) (Q : Option Value → T → Prop) (u v : Int32) (r : List Value) : vc xs zH_117 (n + 1) b d 117 35 ml (.int v :: .int u :: r) t Q = (if u < v then vc xs zH_117 n true d 117 38 ml r t Q else vc xs zH_117 n true d 117 114 ml r t Q) := by
  rw [vc_q (o := (20, 0, 114, 3, [])) (by decide +kernel)]; rfl
theorem v_117_38 (xs : Option (List Int32)) (n : Nat) (b : Bool) (d : Nat) (ml : List Value) (t : T) (Q : Option Value → T → Prop) (st : List Value) : vc xs zH_117 (n + 1) b d 117 38 ml st t Q = vga ml 0 (fun v => vc xs zH_117 n true d 117 39 ml (.ref v :: st) t Q) := by
  rw [vc_q (o := (2, 0, 0, 0, [])) (by decide +kernel)]; rfl
theorem v_117_39 (xs : Option (List Int32)) (n : Nat) (b : Bool) (d : Nat) (ml : List Value) (t : T) (Q : Option Value → T → Prop) (u : Nat) (r : List Value) : vc xs zH_117 (n + 1) b d 117 39 ml (.ref u :: r) t Q = (vtag u = 10 ∧ vc xs zH_117 n true d 117 42 ml (.ref (tref t u 0) :: r) t Q) := by
  rw [vc_q (o := (25, 0, 10, 0, [])) (by decide +kernel)]; rfl
theorem v_117_42 (xs : Option (List Int32)) (n : Nat) (b : Bool) (d : Nat) (ml : List Value) (t : T) (Q : Option Value → T → Prop) (st : List Value) : vc xs zH_117 (n + 1) b d 117 42 ml st t Q = vgi ml 1 (fun v => vc xs zH_117 n true d 117 43 ml (.int v :: st) t Q) := by
  rw [vc_q (o := (1, 0, 1, 0, [])) (by decide +kernel)]; rfl
theorem v_117_43 (xs : Option (List Int32)) (n : Nat) (b : Bool) (d : Nat) (ml : List Value) (t : T) (Q : Option Value → T → Prop) (st : List Value) : vc xs zH_117 (n + 1) b d 117 43 ml st t Q = vgi ml 4 (fun v => vc xs zH_117 n true d 117 45 ml (.int v :: st) t Q) := by
  rw [vc_q (o := (1, 0, 4, 1, [])) (by decide +kernel)]; rfl
theorem v_117_45 (xs : Option (List Int32)) (n : Nat) (b : Bool) (d : Nat) (ml : List Value) (t : T) (Q : Option Value → T → Prop) (w v : Int32) (u : Nat) (r : List Value) : vc xs zH_117 (n + 1) b d 117 45 ml (.int w :: .int v :: .ref u :: r) t Q = (vtag u = 100 ∧ vinb v (vlen u) ∧ vc xs zH_117 n true d 117 46 ml r (tsi t u v.toNatClampNeg w) Q) := by
  rw [vc_q (o := (32, 0, 0, 0, [])) (by decide +kernel)]; rfl
theorem v_117_46 (xs : Option (List Int32)) (n : Nat) (b : Bool) (d : Nat) (ml : List Value) (t : T) (Q : Option Value → T → Prop) (st : List Value) : vc xs zH_117 (n + 1) b d 117 46 ml st t Q = vga ml 0 (fun v => vc xs zH_117 n true d 117 47 ml (.ref v :: st) t Q) := by
  rw [vc_q (o := (2, 0, 0, 0, [])) (by decide +kernel)]; rfl
theorem v_117_47 (xs : Option (List Int32)) (n : Nat) (b : Bool) (d : Nat) (ml : List Value) (t : T) (Q : Option Value → T → Prop) (st : List Value) : vc xs zH_117 (n + 1) b d 117 47 ml st t Q = vgi ml 1 (fun v => vc xs zH_117 n true d 117 48 ml (.int v :: st) t Q) := by
  rw [vc_q (o := (1, 0, 1, 0, [])) (by decide +kernel)]; rfl
theorem v_117_48 (xs : Option (List Int32)) (n : Nat) (b : Bool) (d : Nat) (ml : List Value) (t : T) (Q : Option Value → T → Prop) (st : List Value) : vc xs zH_117 (n + 1) b d 117 48 ml st t Q = vgi ml 4 (fun v => vc xs zH_117 n true d 117 50 ml (.int v :: st) t Q) := by
  rw [vc_q (o := (1, 0, 4, 1, [])) (by decide +kernel)]; rfl
theorem v_117_50 (xs : Option (List Int32)) (n : Nat) (b : Bool) (d : Nat) (ml : List Value) (t : T) (Q : Option Value → T → Prop) (st : List Value) : vc xs zH_117 (n + 1) b d 117 50 ml st t Q = (st.all zc1 = true ∧ vtk 3 st [] (fun as rest => rest.length ≤ 8 ∧ vrc as 10 (twc d 118 as t (fun r t' => vc xs zH_117 n true d 117 53 ml (r.toList ++ rest) t' Q)))) := by
  rw [vc_q (o := (36, 0, 118, 2, [(0, 10)])) (by decide +kernel)]; rfl
theorem v_117_53 (xs : Option (List Int32)) (n : Nat) (b : Bool) (d : Nat) (ml : List Value) (t : T) (Q : Option Value → T → Prop) (u : Int32) (r : List Value) : vc xs zH_117 (n + 1) b d 117 53 ml (.int u :: r) t Q = (if u = 0 then vc xs zH_117 n true d 117 108 ml r t Q else vc xs zH_117 n true d 117 56 ml r t Q) := by
  rw [vc_q (o := (21, 0, 108, 0, [])) (by decide +kernel)]; rfl
theorem v_117_56 (xs : Option (List Int32)) (n : Nat) (b : Bool) (d : Nat) (ml : List Value) (t : T) (Q : Option Value → T → Prop) (st : List Value) : vc xs zH_117 (n + 1) b d 117 56 ml st t Q = vga ml 0 (fun v => vc xs zH_117 n true d 117 57 ml (.ref v :: st) t Q) := by
  rw [vc_q (o := (2, 0, 0, 0, [])) (by decide +kernel)]; rfl
theorem v_117_57 (xs : Option (List Int32)) (n : Nat) (b : Bool) (d : Nat) (ml : List Value) (t : T) (Q : Option Value → T → Prop) (u : Nat) (r : List Value) : vc xs zH_117 (n + 1) b d 117 57 ml (.ref u :: r) t Q = (vtag u = 10 ∧ vc xs zH_117 n true d 117 60 ml (.ref (tref t u 1) :: r) t Q) := by
  rw [vc_q (o := (25, 0, 10, 1, [])) (by decide +kernel)]; rfl
theorem v_117_60 (xs : Option (List Int32)) (n : Nat) (b : Bool) (d : Nat) (ml : List Value) (t : T) (Q : Option Value → T → Prop) (st : List Value) : vc xs zH_117 (n + 1) b d 117 60 ml st t Q = vgi ml 4 (fun v => vc xs zH_117 n true d 117 62 ml (.int v :: st) t Q) := by
  rw [vc_q (o := (1, 0, 4, 1, [])) (by decide +kernel)]; rfl
theorem v_117_62 (xs : Option (List Int32)) (n : Nat) (b : Bool) (d : Nat) (ml : List Value) (t : T) (Q : Option Value → T → Prop) (v : Int32) (u : Nat) (r : List Value) : vc xs zH_117 (n + 1) b d 117 62 ml (.int v :: .ref u :: r) t Q = vc xs zH_117 n true d 117 63 ml (.int v :: .ref u :: .int v :: .ref u :: r) t Q := by
  rw [vc_q (o := (18, 0, 0, 0, [])) (by decide +kernel)]; rfl
theorem v_117_63 (xs : Option (List Int32)) (n : Nat) (b : Bool) (d : Nat) (ml : List Value) (t : T) (Q : Option Value → T → Prop) (v : Int32) (u : Nat) (r : List Value) : vc xs zH_117 (n + 1) b d 117 63 ml (.int v :: .ref u :: r) t Q = (vtag u = 100 ∧ vinb v (vlen u) ∧ vc xs zH_117 n true d 117 64 ml (.int (t.1 u v.toNatClampNeg) :: r) t Q) := by
  rw [vc_q (o := (29, 0, 0, 0, [])) (by decide +kernel)]; rfl
theorem v_117_64 (xs : Option (List Int32)) (n : Nat) (b : Bool) (d : Nat) (ml : List Value) (t : T) (Q : Option Value → T → Prop) (st : List Value) : vc xs zH_117 (n + 1) b d 117 64 ml st t Q = vc xs zH_117 n true d 117 65 ml (.int 1 :: st) t Q := by
  rw [vc_q (o := (0, 1, 0, 0, [])) (by decide +kernel)]; rfl
theorem v_117_65 (xs : Option (List Int32)) (n : Nat) (b : Bool) (d : Nat) (ml : List Value) (t : T) (Q : Option Value → T → Prop) (u v : Int32) (r : List Value) : vc xs zH_117 (n + 1) b d 117 65 ml (.int v :: .int u :: r) t Q = vc xs zH_117 n true d 117 66 ml (.int (u + v) :: r) t Q := by
  rw [vc_q (o := (6, 0, 0, 0, [])) (by decide +kernel)]; rfl
theorem v_117_66 (xs : Option (List Int32)) (n : Nat) (b : Bool) (d : Nat) (ml : List Value) (t : T) (Q : Option Value → T → Prop) (w v : Int32) (u : Nat) (r : List Value) : vc xs zH_117 (n + 1) b d 117 66 ml (.int w :: .int v :: .ref u :: r) t Q = (vtag u = 100 ∧ vinb v (vlen u) ∧ vc xs zH_117 n true d 117 67 ml r (tsi t u v.toNatClampNeg w) Q) := by
  rw [vc_q (o := (32, 0, 0, 0, [])) (by decide +kernel)]; rfl
theorem v_117_67 (xs : Option (List Int32)) (n : Nat) (b : Bool) (d : Nat) (ml : List Value) (t : T) (Q : Option Value → T → Prop) (st : List Value) : vc xs zH_117 (n + 1) b d 117 67 ml st t Q = vga ml 0 (fun v => vc xs zH_117 n true d 117 68 ml (.ref v :: st) t Q) := by
  rw [vc_q (o := (2, 0, 0, 0, [])) (by decide +kernel)]; rfl
theorem v_117_68 (xs : Option (List Int32)) (n : Nat) (b : Bool) (d : Nat) (ml : List Value) (t : T) (Q : Option Value → T → Prop) (st : List Value) : vc xs zH_117 (n + 1) b d 117 68 ml st t Q = vgi ml 1 (fun v => vc xs zH_117 n true d 117 69 ml (.int v :: st) t Q) := by
  rw [vc_q (o := (1, 0, 1, 0, [])) (by decide +kernel)]; rfl
theorem v_117_69 (xs : Option (List Int32)) (n : Nat) (b : Bool) (d : Nat) (ml : List Value) (t : T) (Q : Option Value → T → Prop) (st : List Value) : vc xs zH_117 (n + 1) b d 117 69 ml st t Q = vc xs zH_117 n true d 117 70 ml (.int 1 :: st) t Q := by
  rw [vc_q (o := (0, 1, 0, 0, [])) (by decide +kernel)]; rfl
theorem v_117_70 (xs : Option (List Int32)) (n : Nat) (b : Bool) (d : Nat) (ml : List Value) (t : T) (Q : Option Value → T → Prop) (u v : Int32) (r : List Value) : vc xs zH_117 (n + 1) b d 117 70 ml (.int v :: .int u :: r) t Q = vc xs zH_117 n true d 117 71 ml (.int (u + v) :: r) t Q := by
  rw [vc_q (o := (6, 0, 0, 0, [])) (by decide +kernel)]; rfl
theorem v_117_71 (xs : Option (List Int32)) (n : Nat) (b : Bool) (d : Nat) (ml : List Value) (t : T) (Q : Option Value → T → Prop) (st : List Value) : vc xs zH_117 (n + 1) b d 117 71 ml st t Q = vga ml 0 (fun v => vc xs zH_117 n true d 117 72 ml (.ref v :: st) t Q) := by
  rw [vc_q (o := (2, 0, 0, 0, [])) (by decide +kernel)]; rfl
theorem v_117_72 (xs : Option (List Int32)) (n : Nat) (b : Bool) (d : Nat) (ml : List Value) (t : T) (Q : Option Value → T → Prop) (u : Nat) (r : List Value) : vc xs zH_117 (n + 1) b d 117 72 ml (.ref u :: r) t Q = (vtag u = 10 ∧ vc xs zH_117 n true d 117 75 ml (.ref (tref t u 1) :: r) t Q) := by
  rw [vc_q (o := (25, 0, 10, 1, [])) (by decide +kernel)]; rfl
theorem v_117_75 (xs : Option (List Int32)) (n : Nat) (b : Bool) (d : Nat) (ml : List Value) (t : T) (Q : Option Value → T → Prop) (st : List Value) : vc xs zH_117 (n + 1) b d 117 75 ml st t Q = vgi ml 4 (fun v => vc xs zH_117 n true d 117 77 ml (.int v :: st) t Q) := by
  rw [vc_q (o := (1, 0, 4, 1, [])) (by decide +kernel)]; rfl
theorem v_117_77 (xs : Option (List Int32)) (n : Nat) (b : Bool) (d : Nat) (ml : List Value) (t : T) (Q : Option Value → T → Prop) (v : Int32) (u : Nat) (r : List Value) : vc xs zH_117 (n + 1) b d 117 77 ml (.int v :: .ref u :: r) t Q = (vtag u = 100 ∧ vinb v (vlen u) ∧ vc xs zH_117 n true d 117 78 ml (.int (t.1 u v.toNatClampNeg) :: r) t Q) := by
  rw [vc_q (o := (29, 0, 0, 0, [])) (by decide +kernel)]; rfl
theorem v_117_78 (xs : Option (List Int32)) (n : Nat) (b : Bool) (d : Nat) (ml : List Value) (t : T) (Q : Option Value → T → Prop) (st : List Value) : vc xs zH_117 (n + 1) b d 117 78 ml st t Q = vc xs zH_117 n true d 117 79 ml (.int 1 :: st) t Q := by
  rw [vc_q (o := (0, 1, 0, 0, [])) (by decide +kernel)]; rfl
theorem v_117_79 (xs : Option (List Int32)) (n : Nat) (b : Bool) (d : Nat) (ml : List Value) (t : T) (Q : Option Value → T → Prop) (u v : Int32) (r : List Value) : vc xs zH_117 (n + 1) b d 117 79 ml (.int v :: .int u :: r) t Q = (if u = v then vc xs zH_117 n true d 117 82 ml r t Q else vc xs zH_117 n true d 117 88 ml r t Q) := by
  rw [vc_q (o := (20, 0, 88, 1, [])) (by decide +kernel)]; rfl
theorem v_117_82 (xs : Option (List Int32)) (n : Nat) (b : Bool) (d : Nat) (ml : List Value) (t : T) (Q : Option Value → T → Prop) (st : List Value) : vc xs zH_117 (n + 1) b d 117 82 ml st t Q = vgi ml 2 (fun v => vc xs zH_117 n true d 117 83 ml (.int v :: st) t Q) := by
  rw [vc_q (o := (1, 0, 2, 0, [])) (by decide +kernel)]; rfl
theorem v_117_83 (xs : Option (List Int32)) (n : Nat) (b : Bool) (d : Nat) (ml : List Value) (t : T) (Q : Option Value → T → Prop) (st : List Value) : vc xs zH_117 (n + 1) b d 117 83 ml st t Q = vc xs zH_117 n true d 117 84 ml (.int 1 :: st) t Q := by
  rw [vc_q (o := (0, 1, 0, 0, [])) (by decide +kernel)]; rfl
theorem v_117_84 (xs : Option (List Int32)) (n : Nat) (b : Bool) (d : Nat) (ml : List Value) (t : T) (Q : Option Value → T → Prop) (u v : Int32) (r : List Value) : vc xs zH_117 (n + 1) b d 117 84 ml (.int v :: .int u :: r) t Q = vc xs zH_117 n true d 117 85 ml (.int (u - v) :: r) t Q := by
  rw [vc_q (o := (7, 0, 0, 0, [])) (by decide +kernel)]; rfl
theorem v_117_85 (xs : Option (List Int32)) (n : Nat) (b : Bool) (d : Nat) (ml : List Value) (t : T) (Q : Option Value → T → Prop) (st : List Value) : vc xs zH_117 (n + 1) b d 117 85 ml st t Q = vc xs zH_117 n true d 117 89 ml st t Q := by
  rw [vc_q (o := (22, 0, 89, 0, [])) (by decide +kernel)]; rfl
theorem v_117_88 (xs : Option (List Int32)) (n : Nat) (b : Bool) (d : Nat) (ml : List Value) (t : T) (Q : Option Value → T → Prop) (st : List Value) : vc xs zH_117 (n + 1) b d 117 88 ml st t Q = vgi ml 2 (fun v => vc xs zH_117 n true d 117 89 ml (.int v :: st) t Q) := by
  rw [vc_q (o := (1, 0, 2, 0, [])) (by decide +kernel)]; rfl
theorem v_117_89 (xs : Option (List Int32)) (n : Nat) (b : Bool) (d : Nat) (ml : List Value) (t : T) (Q : Option Value → T → Prop) (st : List Value) : vc xs zH_117 (n + 1) b d 117 89 ml st t Q = (st.all zc1 = true ∧ vtk 3 st [] (fun as rest => rest.length ≤ 8 ∧ vrc as 10 (twc d 117 as t (fun r t' => vc xs zH_117 n true d 117 92 ml (r.toList ++ rest) t' Q)))) := by
  rw [vc_q (o := (36, 0, 117, 2, [(0, 10)])) (by decide +kernel)]; rfl
theorem v_117_92 (xs : Option (List Int32)) (n : Nat) (b : Bool) (d : Nat) (ml : List Value) (t : T) (Q : Option Value → T → Prop) (u : Int32) (r : List Value) : vc xs zH_117 (n + 1) b d 117 92 ml (.int u :: r) t Q = (if u = 0 then vc xs zH_117 n true d 117 97 ml r t Q else vc xs zH_117 n true d 117 95 ml r t Q) := by
  rw [vc_q (o := (21, 0, 97, 0, [])) (by decide +kernel)]; rfl
theorem v_117_95 (xs : Option (List Int32)) (n : Nat) (b : Bool) (d : Nat) (ml : List Value) (t : T) (Q : Option Value → T → Prop) (st : List Value) : vc xs zH_117 (n + 1) b d 117 95 ml st t Q = vc xs zH_117 n true d 117 96 ml (.int 1 :: st) t Q := by
  rw [vc_q (o := (0, 1, 0, 0, [])) (by decide +kernel)]; rfl
theorem v_117_96 (xs : Option (List Int32)) (n : Nat) (b : Bool) (d : Nat) (ml : List Value) (t : T) (Q : Option Value → T → Prop) (v : Int32) : vc xs zH_117 (n + 1) b d 117 96 ml [.int v] t Q = ((v = 0 ∨ v = 1) ∧ Q (some (.int v)) t) := by
  rw [vc_q (o := (41, 0, 0, 0, [])) (by decide +kernel)]; rfl
theorem v_117_97 (xs : Option (List Int32)) (n : Nat) (b : Bool) (d : Nat) (ml : List Value) (t : T) (Q : Option Value → T → Prop) (st : List Value) : vc xs zH_117 (n + 1) b d 117 97 ml st t Q = vga ml 0 (fun v => vc xs zH_117 n true d 117 98 ml (.ref v :: st) t Q) := by
  rw [vc_q (o := (2, 0, 0, 0, [])) (by decide +kernel)]; rfl
theorem v_117_98 (xs : Option (List Int32)) (n : Nat) (b : Bool) (d : Nat) (ml : List Value) (t : T) (Q : Option Value → T → Prop) (u : Nat) (r : List Value) : vc xs zH_117 (n + 1) b d 117 98 ml (.ref u :: r) t Q = (vtag u = 10 ∧ vc xs zH_117 n true d 117 101 ml (.ref (tref t u 1) :: r) t Q) := by
  rw [vc_q (o := (25, 0, 10, 1, [])) (by decide +kernel)]; rfl
theorem v_117_101 (xs : Option (List Int32)) (n : Nat) (b : Bool) (d : Nat) (ml : List Value) (t : T) (Q : Option Value → T → Prop) (st : List Value) : vc xs zH_117 (n + 1) b d 117 101 ml st t Q = vgi ml 4 (fun v => vc xs zH_117 n true d 117 103 ml (.int v :: st) t Q) := by
  rw [vc_q (o := (1, 0, 4, 1, [])) (by decide +kernel)]; rfl
theorem v_117_103 (xs : Option (List Int32)) (n : Nat) (b : Bool) (d : Nat) (ml : List Value) (t : T) (Q : Option Value → T → Prop) (v : Int32) (u : Nat) (r : List Value) : vc xs zH_117 (n + 1) b d 117 103 ml (.int v :: .ref u :: r) t Q = vc xs zH_117 n true d 117 104 ml (.int v :: .ref u :: .int v :: .ref u :: r) t Q := by
  rw [vc_q (o := (18, 0, 0, 0, [])) (by decide +kernel)]; rfl
theorem v_117_104 (xs : Option (List Int32)) (n : Nat) (b : Bool) (d : Nat) (ml : List Value) (t : T) (Q : Option Value → T → Prop) (v : Int32) (u : Nat) (r : List Value) : vc xs zH_117 (n + 1) b d 117 104 ml (.int v :: .ref u :: r) t Q = (vtag u = 100 ∧ vinb v (vlen u) ∧ vc xs zH_117 n true d 117 105 ml (.int (t.1 u v.toNatClampNeg) :: r) t Q) := by
  rw [vc_q (o := (29, 0, 0, 0, [])) (by decide +kernel)]; rfl
theorem v_117_105 (xs : Option (List Int32)) (n : Nat) (b : Bool) (d : Nat) (ml : List Value) (t : T) (Q : Option Value → T → Prop) (st : List Value) : vc xs zH_117 (n + 1) b d 117 105 ml st t Q = vc xs zH_117 n true d 117 106 ml (.int 1 :: st) t Q := by
  rw [vc_q (o := (0, 1, 0, 0, [])) (by decide +kernel)]; rfl
theorem v_117_106 (xs : Option (List Int32)) (n : Nat) (b : Bool) (d : Nat) (ml : List Value) (t : T) (Q : Option Value → T → Prop) (u v : Int32) (r : List Value) : vc xs zH_117 (n + 1) b d 117 106 ml (.int v :: .int u :: r) t Q = vc xs zH_117 n true d 117 107 ml (.int (u - v) :: r) t Q := by
  rw [vc_q (o := (7, 0, 0, 0, [])) (by decide +kernel)]; rfl
theorem v_117_107 (xs : Option (List Int32)) (n : Nat) (b : Bool) (d : Nat) (ml : List Value) (t : T) (Q : Option Value → T → Prop) (w v : Int32) (u : Nat) (r : List Value) : vc xs zH_117 (n + 1) b d 117 107 ml (.int w :: .int v :: .ref u :: r) t Q = (vtag u = 100 ∧ vinb v (vlen u) ∧ vc xs zH_117 n true d 117 108 ml r (tsi t u v.toNatClampNeg w) Q) := by
  rw [vc_q (o := (32, 0, 0, 0, [])) (by decide +kernel)]; rfl
theorem v_117_108 (xs : Option (List Int32)) (n : Nat) (b : Bool) (d : Nat) (ml : List Value) (t : T) (Q : Option Value → T → Prop) (st : List Value) : vc xs zH_117 (n + 1) b d 117 108 ml st t Q = vgi ml 4 (fun v => vset ml 4 (.int (v + 1)) (fun l => vc xs zH_117 n true d 117 111 l st t Q)) := by
  rw [vc_q (o := (5, 1, 4, 0, [])) (by decide +kernel)]; rfl
theorem v_117_111 (xs : Option (List Int32)) (n : Nat) (b : Bool) (d : Nat) (ml : List Value) (t : T) (Q : Option Value → T → Prop) (st : List Value) : vc xs zH_117 (n + 1) b d 117 111 ml st t Q = vc xs zH_117 n true d 117 26 ml st t Q := by
  rw [vc_q (o := (22, 0, 26, 0, [])) (by decide +kernel)]; rfl
theorem v_117_114 (xs : Option (List Int32)) (n : Nat) (b : Bool) (d : Nat) (ml : List Value) (t : T) (Q : Option Value → T → Prop) (st : List Value) : vc xs zH_117 (n + 1) b d 117 114 ml st t Q = vc xs zH_117 n true d 117 115 ml (.int 0 :: st) t Q := by
  rw [vc_q (o := (0, 0, 0, 0, [])) (by decide +kernel)]; rfl
theorem v_117_115 (xs : Option (List Int32)) (n : Nat) (b : Bool) (d : Nat) (ml : List Value) (t : T) (Q : Option Value → T → Prop) (v : Int32) : vc xs zH_117 (n + 1) b d 117 115 ml [.int v] t Q = ((v = 0 ∨ v = 1) ∧ Q (some (.int v)) t) := by
  rw [vc_q (o := (41, 0, 0, 0, [])) (by decide +kernel)]; rfl
