def zH_118 : List Nat := [35, 63]
theorem v_118_0 (xs : Option (List Int32)) (n : Nat) (b : Bool) (d : Nat) (ml : List Value) (t : T) (Q : Option Value → T → Prop) (st : List Value) : vc xs zH_118 (n + 1) b d 118 0 ml st t Q = vga ml 0 (fun v => vc xs zH_118 n true d 118 1 ml (.ref v :: st) t Q) := by
  rw [vc_q (o := (2, 0, 0, 0, [])) (by decide +kernel)]; rfl
theorem v_118_1 (xs : Option (List Int32)) (n : Nat) (b : Bool) (d : Nat) (ml : List Value) (t : T) (Q : Option Value → T → Prop) (u : Nat) (r : List Value) : vc xs zH_118 (n + 1) b d 118 1 ml (.ref u :: r) t Q = (vtag u = 10 ∧ vc xs zH_118 n true d 118 4 ml (.ref (tref t u 1) :: r) t Q) := by
  rw [vc_q (o := (25, 0, 10, 1, [])) (by decide +kernel)]; rfl
theorem v_118_4 (xs : Option (List Int32)) (n : Nat) (b : Bool) (d : Nat) (ml : List Value) (t : T) (Q : Option Value → T → Prop) (st : List Value) : vc xs zH_118 (n + 1) b d 118 4 ml st t Q = vgi ml 2 (fun v => vc xs zH_118 n true d 118 5 ml (.int v :: st) t Q) := by
  rw [vc_q (o := (1, 0, 2, 0, [])) (by decide +kernel)]; rfl
theorem v_118_5 (xs : Option (List Int32)) (n : Nat) (b : Bool) (d : Nat) (ml : List Value) (t : T) (Q : Option Value → T → Prop) (v : Int32) (u : Nat) (r : List Value) : vc xs zH_118 (n + 1) b d 118 5 ml (.int v :: .ref u :: r) t Q = (vtag u = 100 ∧ vinb v (vlen u) ∧ vc xs zH_118 n true d 118 6 ml (.int (t.1 u v.toNatClampNeg) :: r) t Q) := by
  rw [vc_q (o := (29, 0, 0, 0, [])) (by decide +kernel)]; rfl
theorem v_118_6 (xs : Option (List Int32)) (n : Nat) (b : Bool) (d : Nat) (ml : List Value) (t : T) (Q : Option Value → T → Prop) (u : Int32) (r : List Value) : vc xs zH_118 (n + 1) b d 118 6 ml (.int u :: r) t Q = (if 0 < u then vc xs zH_118 n true d 118 20 ml r t Q else vc xs zH_118 n true d 118 9 ml r t Q) := by
  rw [vc_q (o := (21, 0, 20, 4, [])) (by decide +kernel)]; rfl
theorem v_118_9 (xs : Option (List Int32)) (n : Nat) (b : Bool) (d : Nat) (ml : List Value) (t : T) (Q : Option Value → T → Prop) (st : List Value) : vc xs zH_118 (n + 1) b d 118 9 ml st t Q = vga ml 0 (fun v => vc xs zH_118 n true d 118 10 ml (.ref v :: st) t Q) := by
  rw [vc_q (o := (2, 0, 0, 0, [])) (by decide +kernel)]; rfl
theorem v_118_10 (xs : Option (List Int32)) (n : Nat) (b : Bool) (d : Nat) (ml : List Value) (t : T) (Q : Option Value → T → Prop) (u : Nat) (r : List Value) : vc xs zH_118 (n + 1) b d 118 10 ml (.ref u :: r) t Q = (vtag u = 10 ∧ vc xs zH_118 n true d 118 13 ml (.ref (tref t u 2) :: r) t Q) := by
  rw [vc_q (o := (25, 0, 10, 2, [])) (by decide +kernel)]; rfl
theorem v_118_13 (xs : Option (List Int32)) (n : Nat) (b : Bool) (d : Nat) (ml : List Value) (t : T) (Q : Option Value → T → Prop) (st : List Value) : vc xs zH_118 (n + 1) b d 118 13 ml st t Q = vgi ml 1 (fun v => vc xs zH_118 n true d 118 14 ml (.int v :: st) t Q) := by
  rw [vc_q (o := (1, 0, 1, 0, [])) (by decide +kernel)]; rfl
theorem v_118_14 (xs : Option (List Int32)) (n : Nat) (b : Bool) (d : Nat) (ml : List Value) (t : T) (Q : Option Value → T → Prop) (st : List Value) : vc xs zH_118 (n + 1) b d 118 14 ml st t Q = (st.all zc1 = true ∧ vtk 2 st [] (fun as rest => rest.length ≤ 8 ∧ vrc as 4 (twc d 165 as t (fun r t' => vc xs zH_118 n true d 118 17 ml (r.toList ++ rest) t' Q)))) := by
  rw [vc_q (o := (36, 0, 165, 1, [(0, 4)])) (by decide +kernel)]; rfl
theorem v_118_17 (xs : Option (List Int32)) (n : Nat) (b : Bool) (d : Nat) (ml : List Value) (t : T) (Q : Option Value → T → Prop) (u : Int32) (r : List Value) : vc xs zH_118 (n + 1) b d 118 17 ml (.int u :: r) t Q = (if u = 0 then vc xs zH_118 n true d 118 33 ml r t Q else vc xs zH_118 n true d 118 20 ml r t Q) := by
  rw [vc_q (o := (21, 0, 33, 0, [])) (by decide +kernel)]; rfl
theorem v_118_20 (xs : Option (List Int32)) (n : Nat) (b : Bool) (d : Nat) (ml : List Value) (t : T) (Q : Option Value → T → Prop) (st : List Value) : vc xs zH_118 (n + 1) b d 118 20 ml st t Q = vga ml 0 (fun v => vc xs zH_118 n true d 118 21 ml (.ref v :: st) t Q) := by
  rw [vc_q (o := (2, 0, 0, 0, [])) (by decide +kernel)]; rfl
theorem v_118_21 (xs : Option (List Int32)) (n : Nat) (b : Bool) (d : Nat) (ml : List Value) (t : T) (Q : Option Value → T → Prop) (u : Nat) (r : List Value) : vc xs zH_118 (n + 1) b d 118 21 ml (.ref u :: r) t Q = (vtag u = 10 ∧ vc xs zH_118 n true d 118 24 ml (.ref (tref t u 3) :: r) t Q) := by
  rw [vc_q (o := (25, 0, 10, 3, [])) (by decide +kernel)]; rfl
theorem v_118_24 (xs : Option (List Int32)) (n : Nat) (b : Bool) (d : Nat) (ml : List Value) (t : T) (Q : Option Value → T → Prop) (st : List Value) : vc xs zH_118 (n + 1) b d 118 24 ml st t Q = vgi ml 2 (fun v => vc xs zH_118 n true d 118 25 ml (.int v :: st) t Q) := by
  rw [vc_q (o := (1, 0, 2, 0, [])) (by decide +kernel)]; rfl
theorem v_118_25 (xs : Option (List Int32)) (n : Nat) (b : Bool) (d : Nat) (ml : List Value) (t : T) (Q : Option Value → T → Prop) (st : List Value) : vc xs zH_118 (n + 1) b d 118 25 ml st t Q = (st.all zc1 = true ∧ vtk 2 st [] (fun as rest => rest.length ≤ 8 ∧ vrc as 4 (twc d 165 as t (fun r t' => vc xs zH_118 n true d 118 28 ml (r.toList ++ rest) t' Q)))) := by
  rw [vc_q (o := (36, 0, 165, 1, [(0, 4)])) (by decide +kernel)]; rfl
theorem v_118_28 (xs : Option (List Int32)) (n : Nat) (b : Bool) (d : Nat) (ml : List Value) (t : T) (Q : Option Value → T → Prop) (u : Int32) (r : List Value) : vc xs zH_118 (n + 1) b d 118 28 ml (.int u :: r) t Q = (if u = 0 then vc xs zH_118 n true d 118 31 ml r t Q else vc xs zH_118 n true d 118 33 ml r t Q) := by
  rw [vc_q (o := (21, 0, 33, 1, [])) (by decide +kernel)]; rfl
theorem v_118_31 (xs : Option (List Int32)) (n : Nat) (b : Bool) (d : Nat) (ml : List Value) (t : T) (Q : Option Value → T → Prop) (st : List Value) : vc xs zH_118 (n + 1) b d 118 31 ml st t Q = vc xs zH_118 n true d 118 32 ml (.int 0 :: st) t Q := by
  rw [vc_q (o := (0, 0, 0, 0, [])) (by decide +kernel)]; rfl
theorem v_118_32 (xs : Option (List Int32)) (n : Nat) (b : Bool) (d : Nat) (ml : List Value) (t : T) (Q : Option Value → T → Prop) (v : Int32) : vc xs zH_118 (n + 1) b d 118 32 ml [.int v] t Q = ((v = 0 ∨ v = 1) ∧ Q (some (.int v)) t) := by
  rw [vc_q (o := (41, 0, 0, 0, [])) (by decide +kernel)]; rfl
theorem v_118_33 (xs : Option (List Int32)) (n : Nat) (b : Bool) (d : Nat) (ml : List Value) (t : T) (Q : Option Value → T → Prop) (st : List Value) : vc xs zH_118 (n + 1) b d 118 33 ml st t Q = vc xs zH_118 n true d 118 34 ml (.int 2 :: st) t Q := by
  rw [vc_q (o := (0, 2, 0, 0, [])) (by decide +kernel)]; rfl
theorem v_118_34 (xs : Option (List Int32)) (n : Nat) (b : Bool) (d : Nat) (ml : List Value) (t : T) (Q : Option Value → T → Prop) (v : Int32) (r : List Value) : vc xs zH_118 (n + 1) b d 118 34 ml (.int v :: r) t Q = vset ml 3 (.int v) (fun l => vc xs zH_118 n true d 118 35 l r t Q) := by
  rw [vc_q (o := (3, 0, 3, 0, [])) (by decide +kernel)]; rfl
theorem v_118_35 (xs : Option (List Int32)) (n : Nat) (d : Nat) (ml : List Value) (t : T) (Q : Option Value → T → Prop) (st : List Value) : vc xs zH_118 (n + 1) false d 118 35 ml st t Q = vgi ml 3 (fun v => vc xs zH_118 n true d 118 36 ml (.int v :: st) t Q) := by
  rw [vc_q (o := (1, 0, 3, 0, [])) (by decide +kernel)]; rfl
theorem h_118_35 (xs : Option (List Int32)) (n d : Nat) (ml st : List Value) (t : T) (Q : Option Value → T → Prop) : vc xs zH_118 (n + 1) true d 118 35 ml st t Q = twp xs d 118 35 ml st t Q := id rfl
theorem v_118_36 (xs : Option (List Int32)) (n : Nat) (b : Bool) (d : Nat) (ml : List Value) (t : T) (Q : Option Value → T → Prop) (st : List Value) : vc xs zH_118 (n + 1) b d 118 36 ml st t Q = vc xs zH_118 n true d 118 38 ml (.int 6 :: st) t Q := by
  rw [vc_q (o := (0, 6, 1, 0, [])) (by decide +kernel)]; rfl
theorem v_118_38 (xs : Option (List Int32)) (n : Nat) (b : Bool) (d : Nat) (ml : List Value) (t : T) (Q : Option Value → T → Prop) (u v : Int32) (r : List Value) : vc xs zH_118 (n + 1) b d 118 38 ml (.int v :: .int u :: r) t Q = (if u < v then vc xs zH_118 n true d 118 41 ml r t Q else vc xs zH_118 n true d 118 61 ml r t Q) := by
  rw [vc_q (o := (20, 0, 61, 3, [])) (by decide +kernel)]; rfl
theorem v_118_41 (xs : Option (List Int32)) (n : Nat) (b : Bool) (d : Nat) (ml : List Value) (t : T) (Q : Option Value → T → Prop) (st : List Value) : vc xs zH_118 (n + 1) b d 118 41 ml st t Q = vga ml 0 (fun v => vc xs zH_118 n true d 118 42 ml (.ref v :: st) t Q) := by
  rw [vc_q (o := (2, 0, 0, 0, [])) (by decide +kernel)]; rfl
theorem v_118_42 (xs : Option (List Int32)) (n : Nat) (b : Bool) (d : Nat) (ml : List Value) (t : T) (Q : Option Value → T → Prop) (st : List Value) : vc xs zH_118 (n + 1) b d 118 42 ml st t Q = vgi ml 3 (fun v => vc xs zH_118 n true d 118 43 ml (.int v :: st) t Q) := by
  rw [vc_q (o := (1, 0, 3, 0, [])) (by decide +kernel)]; rfl
theorem v_118_43 (xs : Option (List Int32)) (n : Nat) (b : Bool) (d : Nat) (ml : List Value) (t : T) (Q : Option Value → T → Prop) (st : List Value) : vc xs zH_118 (n + 1) b d 118 43 ml st t Q = vgi ml 1 (fun v => vc xs zH_118 n true d 118 44 ml (.int v :: st) t Q) := by
  rw [vc_q (o := (1, 0, 1, 0, [])) (by decide +kernel)]; rfl
theorem v_118_44 (xs : Option (List Int32)) (n : Nat) (b : Bool) (d : Nat) (ml : List Value) (t : T) (Q : Option Value → T → Prop) (st : List Value) : vc xs zH_118 (n + 1) b d 118 44 ml st t Q = vc xs zH_118 n true d 118 45 ml (.int 0 :: st) t Q := by
  rw [vc_q (o := (0, 0, 0, 0, [])) (by decide +kernel)]; rfl
theorem v_118_45 (xs : Option (List Int32)) (n : Nat) (b : Bool) (d : Nat) (ml : List Value) (t : T) (Q : Option Value → T → Prop) (st : List Value) : vc xs zH_118 (n + 1) b d 118 45 ml st t Q = vgi ml 2 (fun v => vc xs zH_118 n true d 118 46 ml (.int v :: st) t Q) := by
  rw [vc_q (o := (1, 0, 2, 0, [])) (by decide +kernel)]; rfl
theorem v_118_46 (xs : Option (List Int32)) (n : Nat) (b : Bool) (d : Nat) (ml : List Value) (t : T) (Q : Option Value → T → Prop) (st : List Value) : vc xs zH_118 (n + 1) b d 118 46 ml st t Q = vc xs zH_118 n true d 118 47 ml (.int 0 :: st) t Q := by
  rw [vc_q (o := (0, 0, 0, 0, [])) (by decide +kernel)]; rfl
theorem v_118_47 (xs : Option (List Int32)) (n : Nat) (b : Bool) (d : Nat) (ml : List Value) (t : T) (Q : Option Value → T → Prop) (st : List Value) : vc xs zH_118 (n + 1) b d 118 47 ml st t Q = (st.all zc1 = true ∧ vtk 6 st [] (fun as rest => rest.length ≤ 8 ∧ vrc as 10 (twc d 120 as t (fun r t' => vc xs zH_118 n true d 118 50 ml (r.toList ++ rest) t' Q)))) := by
  rw [vc_q (o := (36, 0, 120, 5, [(0, 10)])) (by decide +kernel)]; rfl
theorem v_118_50 (xs : Option (List Int32)) (n : Nat) (b : Bool) (d : Nat) (ml : List Value) (t : T) (Q : Option Value → T → Prop) (u : Int32) (r : List Value) : vc xs zH_118 (n + 1) b d 118 50 ml (.int u :: r) t Q = (if u = 0 then vc xs zH_118 n true d 118 53 ml r t Q else vc xs zH_118 n true d 118 55 ml r t Q) := by
  rw [vc_q (o := (21, 0, 55, 1, [])) (by decide +kernel)]; rfl
theorem v_118_53 (xs : Option (List Int32)) (n : Nat) (b : Bool) (d : Nat) (ml : List Value) (t : T) (Q : Option Value → T → Prop) (st : List Value) : vc xs zH_118 (n + 1) b d 118 53 ml st t Q = vc xs zH_118 n true d 118 54 ml (.int 0 :: st) t Q := by
  rw [vc_q (o := (0, 0, 0, 0, [])) (by decide +kernel)]; rfl
theorem v_118_54 (xs : Option (List Int32)) (n : Nat) (b : Bool) (d : Nat) (ml : List Value) (t : T) (Q : Option Value → T → Prop) (v : Int32) : vc xs zH_118 (n + 1) b d 118 54 ml [.int v] t Q = ((v = 0 ∨ v = 1) ∧ Q (some (.int v)) t) := by
  rw [vc_q (o := (41, 0, 0, 0, [])) (by decide +kernel)]; rfl
theorem v_118_55 (xs : Option (List Int32)) (n : Nat) (b : Bool) (d : Nat) (ml : List Value) (t : T) (Q : Option Value → T → Prop) (st : List Value) : vc xs zH_118 (n + 1) b d 118 55 ml st t Q = vgi ml 3 (fun v => vset ml 3 (.int (v + 1)) (fun l => vc xs zH_118 n true d 118 58 l st t Q)) := by
  rw [vc_q (o := (5, 1, 3, 0, [])) (by decide +kernel)]; rfl
theorem v_118_58 (xs : Option (List Int32)) (n : Nat) (b : Bool) (d : Nat) (ml : List Value) (t : T) (Q : Option Value → T → Prop) (st : List Value) : vc xs zH_118 (n + 1) b d 118 58 ml st t Q = vc xs zH_118 n true d 118 35 ml st t Q := by
  rw [vc_q (o := (22, 0, 35, 0, [])) (by decide +kernel)]; rfl
theorem v_118_61 (xs : Option (List Int32)) (n : Nat) (b : Bool) (d : Nat) (ml : List Value) (t : T) (Q : Option Value → T → Prop) (st : List Value) : vc xs zH_118 (n + 1) b d 118 61 ml st t Q = vc xs zH_118 n true d 118 62 ml (.int 0 :: st) t Q := by
  rw [vc_q (o := (0, 0, 0, 0, [])) (by decide +kernel)]; rfl
theorem v_118_62 (xs : Option (List Int32)) (n : Nat) (b : Bool) (d : Nat) (ml : List Value) (t : T) (Q : Option Value → T → Prop) (v : Int32) (r : List Value) : vc xs zH_118 (n + 1) b d 118 62 ml (.int v :: r) t Q = vset ml 3 (.int v) (fun l => vc xs zH_118 n true d 118 63 l r t Q) := by
  rw [vc_q (o := (3, 0, 3, 0, [])) (by decide +kernel)]; rfl
theorem v_118_63 (xs : Option (List Int32)) (n : Nat) (d : Nat) (ml : List Value) (t : T) (Q : Option Value → T → Prop) (st : List Value) : vc xs zH_118 (n + 1) false d 118 63 ml st t Q = vgi ml 3 (fun v => vc xs zH_118 n true d 118 64 ml (.int v :: st) t Q) := by
  rw [vc_q (o := (1, 0, 3, 0, [])) (by decide +kernel)]; rfl
theorem h_118_63 (xs : Option (List Int32)) (n d : Nat) (ml st : List Value) (t : T) (Q : Option Value → T → Prop) : vc xs zH_118 (n + 1) true d 118 63 ml st t Q = twp xs d 118 63 ml st t Q := id rfl
theorem v_118_64 (xs : Option (List Int32)) (n : Nat) (b : Bool) (d : Nat) (ml : List Value) (t : T) (Q : Option Value → T → Prop) (st : List Value) : vc xs zH_118 (n + 1) b d 118 64 ml st t Q = vgi ml 1 (fun v => vc xs zH_118 n true d 118 65 ml (.int v :: st) t Q) := by
  rw [vc_q (o := (1, 0, 1, 0, [])) (by decide +kernel)]; rfl
theorem v_118_65 (xs : Option (List Int32)) (n : Nat) (b : Bool) (d : Nat) (ml : List Value) (t : T) (Q : Option Value → T → Prop) (u v : Int32) (r : List Value) : vc xs zH_118 (n + 1) b d 118 65 ml (.int v :: .int u :: r) t Q = (if v < u then vc xs zH_118 n true d 118 94 ml r t Q else vc xs zH_118 n true d 118 68 ml r t Q) := by
  rw [vc_q (o := (20, 0, 94, 4, [])) (by decide +kernel)]; rfl
theorem v_118_68 (xs : Option (List Int32)) (n : Nat) (b : Bool) (d : Nat) (ml : List Value) (t : T) (Q : Option Value → T → Prop) (st : List Value) : vc xs zH_118 (n + 1) b d 118 68 ml st t Q = vga ml 0 (fun v => vc xs zH_118 n true d 118 69 ml (.ref v :: st) t Q) := by
  rw [vc_q (o := (2, 0, 0, 0, [])) (by decide +kernel)]; rfl
theorem v_118_69 (xs : Option (List Int32)) (n : Nat) (b : Bool) (d : Nat) (ml : List Value) (t : T) (Q : Option Value → T → Prop) (st : List Value) : vc xs zH_118 (n + 1) b d 118 69 ml st t Q = vgi ml 1 (fun v => vc xs zH_118 n true d 118 70 ml (.int v :: st) t Q) := by
  rw [vc_q (o := (1, 0, 1, 0, [])) (by decide +kernel)]; rfl
theorem v_118_70 (xs : Option (List Int32)) (n : Nat) (b : Bool) (d : Nat) (ml : List Value) (t : T) (Q : Option Value → T → Prop) (st : List Value) : vc xs zH_118 (n + 1) b d 118 70 ml st t Q = vgi ml 3 (fun v => vc xs zH_118 n true d 118 71 ml (.int v :: st) t Q) := by
  rw [vc_q (o := (1, 0, 3, 0, [])) (by decide +kernel)]; rfl
theorem v_118_71 (xs : Option (List Int32)) (n : Nat) (b : Bool) (d : Nat) (ml : List Value) (t : T) (Q : Option Value → T → Prop) (st : List Value) : vc xs zH_118 (n + 1) b d 118 71 ml st t Q = (st.all zc1 = true ∧ vtk 3 st [] (fun as rest => rest.length ≤ 8 ∧ vrc as 10 (twc d 119 as t (fun r t' => vc xs zH_118 n true d 118 74 ml (r.toList ++ rest) t' Q)))) := by
  rw [vc_q (o := (36, 0, 119, 2, [(0, 10)])) (by decide +kernel)]; rfl
theorem v_118_74 (xs : Option (List Int32)) (n : Nat) (b : Bool) (d : Nat) (ml : List Value) (t : T) (Q : Option Value → T → Prop) (u : Int32) (r : List Value) : vc xs zH_118 (n + 1) b d 118 74 ml (.int u :: r) t Q = (if u = 0 then vc xs zH_118 n true d 118 86 ml r t Q else vc xs zH_118 n true d 118 77 ml r t Q) := by
  rw [vc_q (o := (21, 0, 86, 0, [])) (by decide +kernel)]; rfl
theorem v_118_77 (xs : Option (List Int32)) (n : Nat) (b : Bool) (d : Nat) (ml : List Value) (t : T) (Q : Option Value → T → Prop) (st : List Value) : vc xs zH_118 (n + 1) b d 118 77 ml st t Q = vga ml 0 (fun v => vc xs zH_118 n true d 118 78 ml (.ref v :: st) t Q) := by
  rw [vc_q (o := (2, 0, 0, 0, [])) (by decide +kernel)]; rfl
theorem v_118_78 (xs : Option (List Int32)) (n : Nat) (b : Bool) (d : Nat) (ml : List Value) (t : T) (Q : Option Value → T → Prop) (st : List Value) : vc xs zH_118 (n + 1) b d 118 78 ml st t Q = vgi ml 3 (fun v => vc xs zH_118 n true d 118 79 ml (.int v :: st) t Q) := by
  rw [vc_q (o := (1, 0, 3, 0, [])) (by decide +kernel)]; rfl
theorem v_118_79 (xs : Option (List Int32)) (n : Nat) (b : Bool) (d : Nat) (ml : List Value) (t : T) (Q : Option Value → T → Prop) (st : List Value) : vc xs zH_118 (n + 1) b d 118 79 ml st t Q = vgi ml 1 (fun v => vc xs zH_118 n true d 118 80 ml (.int v :: st) t Q) := by
  rw [vc_q (o := (1, 0, 1, 0, [])) (by decide +kernel)]; rfl
theorem v_118_80 (xs : Option (List Int32)) (n : Nat) (b : Bool) (d : Nat) (ml : List Value) (t : T) (Q : Option Value → T → Prop) (st : List Value) : vc xs zH_118 (n + 1) b d 118 80 ml st t Q = (st.all zc1 = true ∧ vtk 3 st [] (fun as rest => rest.length ≤ 8 ∧ vrc as 10 (twc d 119 as t (fun r t' => vc xs zH_118 n true d 118 83 ml (r.toList ++ rest) t' Q)))) := by
  rw [vc_q (o := (36, 0, 119, 2, [(0, 10)])) (by decide +kernel)]; rfl
theorem v_118_83 (xs : Option (List Int32)) (n : Nat) (b : Bool) (d : Nat) (ml : List Value) (t : T) (Q : Option Value → T → Prop) (u : Int32) (r : List Value) : vc xs zH_118 (n + 1) b d 118 83 ml (.int u :: r) t Q = (if u = 0 then vc xs zH_118 n true d 118 86 ml r t Q else vc xs zH_118 n true d 118 88 ml r t Q) := by
  rw [vc_q (o := (21, 0, 88, 1, [])) (by decide +kernel)]; rfl
theorem v_118_86 (xs : Option (List Int32)) (n : Nat) (b : Bool) (d : Nat) (ml : List Value) (t : T) (Q : Option Value → T → Prop) (st : List Value) : vc xs zH_118 (n + 1) b d 118 86 ml st t Q = vc xs zH_118 n true d 118 87 ml (.int 0 :: st) t Q := by
  rw [vc_q (o := (0, 0, 0, 0, [])) (by decide +kernel)]; rfl
theorem v_118_87 (xs : Option (List Int32)) (n : Nat) (b : Bool) (d : Nat) (ml : List Value) (t : T) (Q : Option Value → T → Prop) (v : Int32) : vc xs zH_118 (n + 1) b d 118 87 ml [.int v] t Q = ((v = 0 ∨ v = 1) ∧ Q (some (.int v)) t) := by
  rw [vc_q (o := (41, 0, 0, 0, [])) (by decide +kernel)]; rfl
theorem v_118_88 (xs : Option (List Int32)) (n : Nat) (b : Bool) (d : Nat) (ml : List Value) (t : T) (Q : Option Value → T → Prop) (st : List Value) : vc xs zH_118 (n + 1) b d 118 88 ml st t Q = vgi ml 3 (fun v => vset ml 3 (.int (v + 1)) (fun l => vc xs zH_118 n true d 118 91 l st t Q)) := by
  rw [vc_q (o := (5, 1, 3, 0, [])) (by decide +kernel)]; rfl
theorem v_118_91 (xs : Option (List Int32)) (n : Nat) (b : Bool) (d : Nat) (ml : List Value) (t : T) (Q : Option Value → T → Prop) (st : List Value) : vc xs zH_118 (n + 1) b d 118 91 ml st t Q = vc xs zH_118 n true d 118 63 ml st t Q := by
  rw [vc_q (o := (22, 0, 63, 0, [])) (by decide +kernel)]; rfl
theorem v_118_94 (xs : Option (List Int32)) (n : Nat) (b : Bool) (d : Nat) (ml : List Value) (t : T) (Q : Option Value → T → Prop) (st : List Value) : vc xs zH_118 (n + 1) b d 118 94 ml st t Q = vc xs zH_118 n true d 118 95 ml (.int 1 :: st) t Q := by
  rw [vc_q (o := (0, 1, 0, 0, [])) (by decide +kernel)]; rfl
theorem v_118_95 (xs : Option (List Int32)) (n : Nat) (b : Bool) (d : Nat) (ml : List Value) (t : T) (Q : Option Value → T → Prop) (v : Int32) : vc xs zH_118 (n + 1) b d 118 95 ml [.int v] t Q = ((v = 0 ∨ v = 1) ∧ Q (some (.int v)) t) := by
  rw [vc_q (o := (41, 0, 0, 0, [])) (by decide +kernel)]; rfl
def zH_119 : List Nat := []
theorem v_119_0 (xs : Option (List Int32)) (n : Nat) (b : Bool) (d : Nat) (ml : List Value) (t : T) (Q : Option Value → T → Prop) (st : List Value) : vc xs zH_119 (n + 1) b d 119 0 ml st t Q = vga ml 0 (fun v => vc xs zH_119 n true d 119 1 ml (.ref v :: st) t Q) := by
  rw [vc_q (o := (2, 0, 0, 0, [])) (by decide +kernel)]; rfl
theorem v_119_1 (xs : Option (List Int32)) (n : Nat) (b : Bool) (d : Nat) (ml : List Value) (t : T) (Q : Option Value → T → Prop) (st : List Value) : vc xs zH_119 (n + 1) b d 119 1 ml st t Q = vc xs zH_119 n true d 119 3 ml (.int 6 :: st) t Q := by
  rw [vc_q (o := (0, 6, 1, 0, [])) (by decide +kernel)]; rfl
theorem v_119_3 (xs : Option (List Int32)) (n : Nat) (b : Bool) (d : Nat) (ml : List Value) (t : T) (Q : Option Value → T → Prop) (st : List Value) : vc xs zH_119 (n + 1) b d 119 3 ml st t Q = vgi ml 1 (fun v => vc xs zH_119 n true d 119 4 ml (.int v :: st) t Q) := by
  rw [vc_q (o := (1, 0, 1, 0, [])) (by decide +kernel)]; rfl
theorem v_119_4 (xs : Option (List Int32)) (n : Nat) (b : Bool) (d : Nat) (ml : List Value) (t : T) (Q : Option Value → T → Prop) (st : List Value) : vc xs zH_119 (n + 1) b d 119 4 ml st t Q = vgi ml 2 (fun v => vc xs zH_119 n true d 119 5 ml (.int v :: st) t Q) := by
  rw [vc_q (o := (1, 0, 2, 0, [])) (by decide +kernel)]; rfl
theorem v_119_5 (xs : Option (List Int32)) (n : Nat) (b : Bool) (d : Nat) (ml : List Value) (t : T) (Q : Option Value → T → Prop) (st : List Value) : vc xs zH_119 (n + 1) b d 119 5 ml st t Q = vga ml 0 (fun v => vc xs zH_119 n true d 119 6 ml (.ref v :: st) t Q) := by
  rw [vc_q (o := (2, 0, 0, 0, [])) (by decide +kernel)]; rfl
theorem v_119_6 (xs : Option (List Int32)) (n : Nat) (b : Bool) (d : Nat) (ml : List Value) (t : T) (Q : Option Value → T → Prop) (u : Nat) (r : List Value) : vc xs zH_119 (n + 1) b d 119 6 ml (.ref u :: r) t Q = (vtag u = 10 ∧ vc xs zH_119 n true d 119 9 ml (.ref (tref t u 0) :: r) t Q) := by
  rw [vc_q (o := (25, 0, 10, 0, [])) (by decide +kernel)]; rfl
theorem v_119_9 (xs : Option (List Int32)) (n : Nat) (b : Bool) (d : Nat) (ml : List Value) (t : T) (Q : Option Value → T → Prop) (st : List Value) : vc xs zH_119 (n + 1) b d 119 9 ml st t Q = vgi ml 1 (fun v => vc xs zH_119 n true d 119 10 ml (.int v :: st) t Q) := by
  rw [vc_q (o := (1, 0, 1, 0, [])) (by decide +kernel)]; rfl
theorem v_119_10 (xs : Option (List Int32)) (n : Nat) (b : Bool) (d : Nat) (ml : List Value) (t : T) (Q : Option Value → T → Prop) (v : Int32) (u : Nat) (r : List Value) : vc xs zH_119 (n + 1) b d 119 10 ml (.int v :: .ref u :: r) t Q = (vtag u = 100 ∧ vinb v (vlen u) ∧ vc xs zH_119 n true d 119 11 ml (.int (t.1 u v.toNatClampNeg) :: r) t Q) := by
  rw [vc_q (o := (29, 0, 0, 0, [])) (by decide +kernel)]; rfl
theorem v_119_11 (xs : Option (List Int32)) (n : Nat) (b : Bool) (d : Nat) (ml : List Value) (t : T) (Q : Option Value → T → Prop) (st : List Value) : vc xs zH_119 (n + 1) b d 119 11 ml st t Q = vga ml 0 (fun v => vc xs zH_119 n true d 119 12 ml (.ref v :: st) t Q) := by
  rw [vc_q (o := (2, 0, 0, 0, [])) (by decide +kernel)]; rfl
theorem v_119_12 (xs : Option (List Int32)) (n : Nat) (b : Bool) (d : Nat) (ml : List Value) (t : T) (Q : Option Value → T → Prop) (u : Nat) (r : List Value) : vc xs zH_119 (n + 1) b d 119 12 ml (.ref u :: r) t Q = (vtag u = 10 ∧ vc xs zH_119 n true d 119 15 ml (.ref (tref t u 0) :: r) t Q) := by
  rw [vc_q (o := (25, 0, 10, 0, [])) (by decide +kernel)]; rfl
theorem v_119_15 (xs : Option (List Int32)) (n : Nat) (b : Bool) (d : Nat) (ml : List Value) (t : T) (Q : Option Value → T → Prop) (st : List Value) : vc xs zH_119 (n + 1) b d 119 15 ml st t Q = vgi ml 2 (fun v => vc xs zH_119 n true d 119 16 ml (.int v :: st) t Q) := by
  rw [vc_q (o := (1, 0, 2, 0, [])) (by decide +kernel)]; rfl
theorem v_119_16 (xs : Option (List Int32)) (n : Nat) (b : Bool) (d : Nat) (ml : List Value) (t : T) (Q : Option Value → T → Prop) (v : Int32) (u : Nat) (r : List Value) : vc xs zH_119 (n + 1) b d 119 16 ml (.int v :: .ref u :: r) t Q = (vtag u = 100 ∧ vinb v (vlen u) ∧ vc xs zH_119 n true d 119 17 ml (.int (t.1 u v.toNatClampNeg) :: r) t Q) := by
  rw [vc_q (o := (29, 0, 0, 0, [])) (by decide +kernel)]; rfl
theorem v_119_17 (xs : Option (List Int32)) (n : Nat) (b : Bool) (d : Nat) (ml : List Value) (t : T) (Q : Option Value → T → Prop) (st : List Value) : vc xs zH_119 (n + 1) b d 119 17 ml st t Q = (st.all zc1 = true ∧ vtk 6 st [] (fun as rest => rest.length ≤ 8 ∧ vrc as 10 (twc d 120 as t (fun r t' => vc xs zH_119 n true d 119 20 ml (r.toList ++ rest) t' Q)))) := by
  rw [vc_q (o := (36, 0, 120, 5, [(0, 10)])) (by decide +kernel)]; rfl
theorem v_119_20 (xs : Option (List Int32)) (n : Nat) (b : Bool) (d : Nat) (ml : List Value) (t : T) (Q : Option Value → T → Prop) (u : Int32) (r : List Value) : vc xs zH_119 (n + 1) b d 119 20 ml (.int u :: r) t Q = (if u = 0 then vc xs zH_119 n true d 119 50 ml r t Q else vc xs zH_119 n true d 119 23 ml r t Q) := by
  rw [vc_q (o := (21, 0, 50, 0, [])) (by decide +kernel)]; rfl
theorem v_119_23 (xs : Option (List Int32)) (n : Nat) (b : Bool) (d : Nat) (ml : List Value) (t : T) (Q : Option Value → T → Prop) (st : List Value) : vc xs zH_119 (n + 1) b d 119 23 ml st t Q = vga ml 0 (fun v => vc xs zH_119 n true d 119 24 ml (.ref v :: st) t Q) := by
  rw [vc_q (o := (2, 0, 0, 0, [])) (by decide +kernel)]; rfl
theorem v_119_24 (xs : Option (List Int32)) (n : Nat) (b : Bool) (d : Nat) (ml : List Value) (t : T) (Q : Option Value → T → Prop) (st : List Value) : vc xs zH_119 (n + 1) b d 119 24 ml st t Q = vc xs zH_119 n true d 119 26 ml (.int 7 :: st) t Q := by
  rw [vc_q (o := (0, 7, 1, 0, [])) (by decide +kernel)]; rfl
theorem v_119_26 (xs : Option (List Int32)) (n : Nat) (b : Bool) (d : Nat) (ml : List Value) (t : T) (Q : Option Value → T → Prop) (st : List Value) : vc xs zH_119 (n + 1) b d 119 26 ml st t Q = vgi ml 1 (fun v => vc xs zH_119 n true d 119 27 ml (.int v :: st) t Q) := by
  rw [vc_q (o := (1, 0, 1, 0, [])) (by decide +kernel)]; rfl
theorem v_119_27 (xs : Option (List Int32)) (n : Nat) (b : Bool) (d : Nat) (ml : List Value) (t : T) (Q : Option Value → T → Prop) (st : List Value) : vc xs zH_119 (n + 1) b d 119 27 ml st t Q = vgi ml 2 (fun v => vc xs zH_119 n true d 119 28 ml (.int v :: st) t Q) := by
  rw [vc_q (o := (1, 0, 2, 0, [])) (by decide +kernel)]; rfl
theorem v_119_28 (xs : Option (List Int32)) (n : Nat) (b : Bool) (d : Nat) (ml : List Value) (t : T) (Q : Option Value → T → Prop) (st : List Value) : vc xs zH_119 (n + 1) b d 119 28 ml st t Q = vga ml 0 (fun v => vc xs zH_119 n true d 119 29 ml (.ref v :: st) t Q) := by
  rw [vc_q (o := (2, 0, 0, 0, [])) (by decide +kernel)]; rfl
theorem v_119_29 (xs : Option (List Int32)) (n : Nat) (b : Bool) (d : Nat) (ml : List Value) (t : T) (Q : Option Value → T → Prop) (u : Nat) (r : List Value) : vc xs zH_119 (n + 1) b d 119 29 ml (.ref u :: r) t Q = (vtag u = 10 ∧ vc xs zH_119 n true d 119 32 ml (.ref (tref t u 0) :: r) t Q) := by
  rw [vc_q (o := (25, 0, 10, 0, [])) (by decide +kernel)]; rfl
theorem v_119_32 (xs : Option (List Int32)) (n : Nat) (b : Bool) (d : Nat) (ml : List Value) (t : T) (Q : Option Value → T → Prop) (st : List Value) : vc xs zH_119 (n + 1) b d 119 32 ml st t Q = vgi ml 1 (fun v => vc xs zH_119 n true d 119 33 ml (.int v :: st) t Q) := by
  rw [vc_q (o := (1, 0, 1, 0, [])) (by decide +kernel)]; rfl
theorem v_119_33 (xs : Option (List Int32)) (n : Nat) (b : Bool) (d : Nat) (ml : List Value) (t : T) (Q : Option Value → T → Prop) (v : Int32) (u : Nat) (r : List Value) : vc xs zH_119 (n + 1) b d 119 33 ml (.int v :: .ref u :: r) t Q = (vtag u = 100 ∧ vinb v (vlen u) ∧ vc xs zH_119 n true d 119 34 ml (.int (t.1 u v.toNatClampNeg) :: r) t Q) := by
  rw [vc_q (o := (29, 0, 0, 0, [])) (by decide +kernel)]; rfl
theorem v_119_34 (xs : Option (List Int32)) (n : Nat) (b : Bool) (d : Nat) (ml : List Value) (t : T) (Q : Option Value → T → Prop) (st : List Value) : vc xs zH_119 (n + 1) b d 119 34 ml st t Q = vga ml 0 (fun v => vc xs zH_119 n true d 119 35 ml (.ref v :: st) t Q) := by
  rw [vc_q (o := (2, 0, 0, 0, [])) (by decide +kernel)]; rfl
theorem v_119_35 (xs : Option (List Int32)) (n : Nat) (b : Bool) (d : Nat) (ml : List Value) (t : T) (Q : Option Value → T → Prop) (u : Nat) (r : List Value) : vc xs zH_119 (n + 1) b d 119 35 ml (.ref u :: r) t Q = (vtag u = 10 ∧ vc xs zH_119 n true d 119 38 ml (.ref (tref t u 0) :: r) t Q) := by
  rw [vc_q (o := (25, 0, 10, 0, [])) (by decide +kernel)]; rfl
theorem v_119_38 (xs : Option (List Int32)) (n : Nat) (b : Bool) (d : Nat) (ml : List Value) (t : T) (Q : Option Value → T → Prop) (st : List Value) : vc xs zH_119 (n + 1) b d 119 38 ml st t Q = vgi ml 2 (fun v => vc xs zH_119 n true d 119 39 ml (.int v :: st) t Q) := by
  rw [vc_q (o := (1, 0, 2, 0, [])) (by decide +kernel)]; rfl
theorem v_119_39 (xs : Option (List Int32)) (n : Nat) (b : Bool) (d : Nat) (ml : List Value) (t : T) (Q : Option Value → T → Prop) (v : Int32) (u : Nat) (r : List Value) : vc xs zH_119 (n + 1) b d 119 39 ml (.int v :: .ref u :: r) t Q = (vtag u = 100 ∧ vinb v (vlen u) ∧ vc xs zH_119 n true d 119 40 ml (.int (t.1 u v.toNatClampNeg) :: r) t Q) := by
  rw [vc_q (o := (29, 0, 0, 0, [])) (by decide +kernel)]; rfl
theorem v_119_40 (xs : Option (List Int32)) (n : Nat) (b : Bool) (d : Nat) (ml : List Value) (t : T) (Q : Option Value → T → Prop) (st : List Value) : vc xs zH_119 (n + 1) b d 119 40 ml st t Q = (st.all zc1 = true ∧ vtk 6 st [] (fun as rest => rest.length ≤ 8 ∧ vrc as 10 (twc d 120 as t (fun r t' => vc xs zH_119 n true d 119 43 ml (r.toList ++ rest) t' Q)))) := by
  rw [vc_q (o := (36, 0, 120, 5, [(0, 10)])) (by decide +kernel)]; rfl
theorem v_119_43 (xs : Option (List Int32)) (n : Nat) (b : Bool) (d : Nat) (ml : List Value) (t : T) (Q : Option Value → T → Prop) (u : Int32) (r : List Value) : vc xs zH_119 (n + 1) b d 119 43 ml (.int u :: r) t Q = (if u = 0 then vc xs zH_119 n true d 119 50 ml r t Q else vc xs zH_119 n true d 119 46 ml r t Q) := by
  rw [vc_q (o := (21, 0, 50, 0, [])) (by decide +kernel)]; rfl
theorem v_119_46 (xs : Option (List Int32)) (n : Nat) (b : Bool) (d : Nat) (ml : List Value) (t : T) (Q : Option Value → T → Prop) (st : List Value) : vc xs zH_119 (n + 1) b d 119 46 ml st t Q = vc xs zH_119 n true d 119 47 ml (.int 1 :: st) t Q := by
  rw [vc_q (o := (0, 1, 0, 0, [])) (by decide +kernel)]; rfl
theorem v_119_47 (xs : Option (List Int32)) (n : Nat) (b : Bool) (d : Nat) (ml : List Value) (t : T) (Q : Option Value → T → Prop) (st : List Value) : vc xs zH_119 (n + 1) b d 119 47 ml st t Q = vc xs zH_119 n true d 119 51 ml st t Q := by
  rw [vc_q (o := (22, 0, 51, 0, [])) (by decide +kernel)]; rfl
theorem v_119_50 (xs : Option (List Int32)) (n : Nat) (b : Bool) (d : Nat) (ml : List Value) (t : T) (Q : Option Value → T → Prop) (st : List Value) : vc xs zH_119 (n + 1) b d 119 50 ml st t Q = vc xs zH_119 n true d 119 51 ml (.int 0 :: st) t Q := by
  rw [vc_q (o := (0, 0, 0, 0, [])) (by decide +kernel)]; rfl
theorem v_119_51 (xs : Option (List Int32)) (n : Nat) (b : Bool) (d : Nat) (ml : List Value) (t : T) (Q : Option Value → T → Prop) (v : Int32) : vc xs zH_119 (n + 1) b d 119 51 ml [.int v] t Q = ((v = 0 ∨ v = 1) ∧ Q (some (.int v)) t) := by
  rw [vc_q (o := (41, 0, 0, 0, [])) (by decide +kernel)]; rfl
def zH_120 : List Nat := []
theorem v_120_0 (xs : Option (List Int32)) (n : Nat) (b : Bool) (d : Nat) (ml : List Value) (t : T) (Q : Option Value → T → Prop) (st : List Value) : vc xs zH_120 (n + 1) b d 120 0 ml st t Q = vga ml 0 (fun v => vc xs zH_120 n true d 120 1 ml (.ref v :: st) t Q) := by
  rw [vc_q (o := (2, 0, 0, 0, [])) (by decide +kernel)]; rfl
theorem v_120_1 (xs : Option (List Int32)) (n : Nat) (b : Bool) (d : Nat) (ml : List Value) (t : T) (Q : Option Value → T → Prop) (u : Nat) (r : List Value) : vc xs zH_120 (n + 1) b d 120 1 ml (.ref u :: r) t Q = (vtag u = 10 ∧ vc xs zH_120 n true d 120 4 ml (.ref (tref t u 3) :: r) t Q) := by
  rw [vc_q (o := (25, 0, 10, 3, [])) (by decide +kernel)]; rfl
theorem v_120_4 (xs : Option (List Int32)) (n : Nat) (b : Bool) (d : Nat) (ml : List Value) (t : T) (Q : Option Value → T → Prop) (st : List Value) : vc xs zH_120 (n + 1) b d 120 4 ml st t Q = vgi ml 1 (fun v => vc xs zH_120 n true d 120 5 ml (.int v :: st) t Q) := by
  rw [vc_q (o := (1, 0, 1, 0, [])) (by decide +kernel)]; rfl
theorem v_120_5 (xs : Option (List Int32)) (n : Nat) (b : Bool) (d : Nat) (ml : List Value) (t : T) (Q : Option Value → T → Prop) (st : List Value) : vc xs zH_120 (n + 1) b d 120 5 ml st t Q = vgi ml 4 (fun v => vc xs zH_120 n true d 120 7 ml (.int v :: st) t Q) := by
  rw [vc_q (o := (1, 0, 4, 1, [])) (by decide +kernel)]; rfl
theorem v_120_7 (xs : Option (List Int32)) (n : Nat) (b : Bool) (d : Nat) (ml : List Value) (t : T) (Q : Option Value → T → Prop) (st : List Value) : vc xs zH_120 (n + 1) b d 120 7 ml st t Q = vgi ml 5 (fun v => vc xs zH_120 n true d 120 9 ml (.int v :: st) t Q) := by
  rw [vc_q (o := (1, 0, 5, 1, [])) (by decide +kernel)]; rfl
theorem v_120_9 (xs : Option (List Int32)) (n : Nat) (b : Bool) (d : Nat) (ml : List Value) (t : T) (Q : Option Value → T → Prop) (st : List Value) : vc xs zH_120 (n + 1) b d 120 9 ml st t Q = (st.all zc1 = true ∧ vtk 4 st [] (fun as rest => rest.length ≤ 8 ∧ vrc as 4 (twc d 162 as t (fun r t' => vc xs zH_120 n true d 120 12 ml (r.toList ++ rest) t' Q)))) := by
  rw [vc_q (o := (36, 0, 162, 3, [(0, 4)])) (by decide +kernel)]; rfl
theorem v_120_12 (xs : Option (List Int32)) (n : Nat) (b : Bool) (d : Nat) (ml : List Value) (t : T) (Q : Option Value → T → Prop) (v : Int32) (r : List Value) : vc xs zH_120 (n + 1) b d 120 12 ml (.int v :: r) t Q = vset ml 6 (.int v) (fun l => vc xs zH_120 n true d 120 14 l r t Q) := by
  rw [vc_q (o := (3, 0, 6, 1, [])) (by decide +kernel)]; rfl
theorem v_120_14 (xs : Option (List Int32)) (n : Nat) (b : Bool) (d : Nat) (ml : List Value) (t : T) (Q : Option Value → T → Prop) (st : List Value) : vc xs zH_120 (n + 1) b d 120 14 ml st t Q = vgi ml 6 (fun v => vc xs zH_120 n true d 120 16 ml (.int v :: st) t Q) := by
  rw [vc_q (o := (1, 0, 6, 1, [])) (by decide +kernel)]; rfl
theorem v_120_16 (xs : Option (List Int32)) (n : Nat) (b : Bool) (d : Nat) (ml : List Value) (t : T) (Q : Option Value → T → Prop) (st : List Value) : vc xs zH_120 (n + 1) b d 120 16 ml st t Q = vc xs zH_120 n true d 120 17 ml (.int 2 :: st) t Q := by
  rw [vc_q (o := (0, 2, 0, 0, [])) (by decide +kernel)]; rfl
theorem v_120_17 (xs : Option (List Int32)) (n : Nat) (b : Bool) (d : Nat) (ml : List Value) (t : T) (Q : Option Value → T → Prop) (u v : Int32) (r : List Value) : vc xs zH_120 (n + 1) b d 120 17 ml (.int v :: .int u :: r) t Q = (if u = v then vc xs zH_120 n true d 120 35 ml r t Q else vc xs zH_120 n true d 120 20 ml r t Q) := by
  rw [vc_q (o := (20, 0, 35, 0, [])) (by decide +kernel)]; rfl
theorem v_120_20 (xs : Option (List Int32)) (n : Nat) (b : Bool) (d : Nat) (ml : List Value) (t : T) (Q : Option Value → T → Prop) (st : List Value) : vc xs zH_120 (n + 1) b d 120 20 ml st t Q = vgi ml 6 (fun v => vc xs zH_120 n true d 120 22 ml (.int v :: st) t Q) := by
  rw [vc_q (o := (1, 0, 6, 1, [])) (by decide +kernel)]; rfl
theorem v_120_22 (xs : Option (List Int32)) (n : Nat) (b : Bool) (d : Nat) (ml : List Value) (t : T) (Q : Option Value → T → Prop) (st : List Value) : vc xs zH_120 (n + 1) b d 120 22 ml st t Q = vga ml 0 (fun v => vc xs zH_120 n true d 120 23 ml (.ref v :: st) t Q) := by
  rw [vc_q (o := (2, 0, 0, 0, [])) (by decide +kernel)]; rfl
theorem v_120_23 (xs : Option (List Int32)) (n : Nat) (b : Bool) (d : Nat) (ml : List Value) (t : T) (Q : Option Value → T → Prop) (u : Nat) (r : List Value) : vc xs zH_120 (n + 1) b d 120 23 ml (.ref u :: r) t Q = (vtag u = 10 ∧ vc xs zH_120 n true d 120 26 ml (.ref (tref t u 2) :: r) t Q) := by
  rw [vc_q (o := (25, 0, 10, 2, [])) (by decide +kernel)]; rfl
theorem v_120_26 (xs : Option (List Int32)) (n : Nat) (b : Bool) (d : Nat) (ml : List Value) (t : T) (Q : Option Value → T → Prop) (st : List Value) : vc xs zH_120 (n + 1) b d 120 26 ml st t Q = vgi ml 1 (fun v => vc xs zH_120 n true d 120 27 ml (.int v :: st) t Q) := by
  rw [vc_q (o := (1, 0, 1, 0, [])) (by decide +kernel)]; rfl
theorem v_120_27 (xs : Option (List Int32)) (n : Nat) (b : Bool) (d : Nat) (ml : List Value) (t : T) (Q : Option Value → T → Prop) (st : List Value) : vc xs zH_120 (n + 1) b d 120 27 ml st t Q = vgi ml 2 (fun v => vc xs zH_120 n true d 120 28 ml (.int v :: st) t Q) := by
  rw [vc_q (o := (1, 0, 2, 0, [])) (by decide +kernel)]; rfl
theorem v_120_28 (xs : Option (List Int32)) (n : Nat) (b : Bool) (d : Nat) (ml : List Value) (t : T) (Q : Option Value → T → Prop) (st : List Value) : vc xs zH_120 (n + 1) b d 120 28 ml st t Q = vgi ml 3 (fun v => vc xs zH_120 n true d 120 29 ml (.int v :: st) t Q) := by
  rw [vc_q (o := (1, 0, 3, 0, [])) (by decide +kernel)]; rfl
theorem v_120_29 (xs : Option (List Int32)) (n : Nat) (b : Bool) (d : Nat) (ml : List Value) (t : T) (Q : Option Value → T → Prop) (st : List Value) : vc xs zH_120 (n + 1) b d 120 29 ml st t Q = (st.all zc1 = true ∧ vtk 4 st [] (fun as rest => rest.length ≤ 8 ∧ vrc as 4 (twc d 162 as t (fun r t' => vc xs zH_120 n true d 120 32 ml (r.toList ++ rest) t' Q)))) := by
  rw [vc_q (o := (36, 0, 162, 3, [(0, 4)])) (by decide +kernel)]; rfl
theorem v_120_32 (xs : Option (List Int32)) (n : Nat) (b : Bool) (d : Nat) (ml : List Value) (t : T) (Q : Option Value → T → Prop) (u v : Int32) (r : List Value) : vc xs zH_120 (n + 1) b d 120 32 ml (.int v :: .int u :: r) t Q = (if u = v then vc xs zH_120 n true d 120 35 ml r t Q else vc xs zH_120 n true d 120 39 ml r t Q) := by
  rw [vc_q (o := (20, 0, 39, 1, [])) (by decide +kernel)]; rfl
theorem v_120_35 (xs : Option (List Int32)) (n : Nat) (b : Bool) (d : Nat) (ml : List Value) (t : T) (Q : Option Value → T → Prop) (st : List Value) : vc xs zH_120 (n + 1) b d 120 35 ml st t Q = vc xs zH_120 n true d 120 36 ml (.int 1 :: st) t Q := by
  rw [vc_q (o := (0, 1, 0, 0, [])) (by decide +kernel)]; rfl
theorem v_120_36 (xs : Option (List Int32)) (n : Nat) (b : Bool) (d : Nat) (ml : List Value) (t : T) (Q : Option Value → T → Prop) (st : List Value) : vc xs zH_120 (n + 1) b d 120 36 ml st t Q = vc xs zH_120 n true d 120 40 ml st t Q := by
  rw [vc_q (o := (22, 0, 40, 0, [])) (by decide +kernel)]; rfl
theorem v_120_39 (xs : Option (List Int32)) (n : Nat) (b : Bool) (d : Nat) (ml : List Value) (t : T) (Q : Option Value → T → Prop) (st : List Value) : vc xs zH_120 (n + 1) b d 120 39 ml st t Q = vc xs zH_120 n true d 120 40 ml (.int 0 :: st) t Q := by
  rw [vc_q (o := (0, 0, 0, 0, [])) (by decide +kernel)]; rfl
theorem v_120_40 (xs : Option (List Int32)) (n : Nat) (b : Bool) (d : Nat) (ml : List Value) (t : T) (Q : Option Value → T → Prop) (v : Int32) : vc xs zH_120 (n + 1) b d 120 40 ml [.int v] t Q = ((v = 0 ∨ v = 1) ∧ Q (some (.int v)) t) := by
  rw [vc_q (o := (41, 0, 0, 0, [])) (by decide +kernel)]; rfl
def zH_122 : List Nat := []
theorem v_122_0 (xs : Option (List Int32)) (n : Nat) (b : Bool) (d : Nat) (ml : List Value) (t : T) (Q : Option Value → T → Prop) (st : List Value) : vc xs zH_122 (n + 1) b d 122 0 ml st t Q = vga ml 0 (fun v => vc xs zH_122 n true d 122 1 ml (.ref v :: st) t Q) := by
  rw [vc_q (o := (2, 0, 0, 0, [])) (by decide +kernel)]; rfl
theorem v_122_1 (xs : Option (List Int32)) (n : Nat) (b : Bool) (d : Nat) (ml : List Value) (t : T) (Q : Option Value → T → Prop) (st : List Value) : vc xs zH_122 (n + 1) b d 122 1 ml st t Q = vga ml 1 (fun v => vc xs zH_122 n true d 122 2 ml (.ref v :: st) t Q) := by
  rw [vc_q (o := (2, 0, 1, 0, [])) (by decide +kernel)]; rfl
theorem v_122_2 (xs : Option (List Int32)) (n : Nat) (b : Bool) (d : Nat) (ml : List Value) (t : T) (Q : Option Value → T → Prop) (v : Nat) (u : Nat) (r : List Value) : vc xs zH_122 (n + 1) b d 122 2 ml (.ref v :: .ref u :: r) t Q = (vtag u = 3 ∧ tmut u 3 = true ∧ vc xs zH_122 n true d 122 5 ml r (tsr t u 3 v) Q) := by
  rw [vc_q (o := (28, 0, 3, 3, [])) (by decide +kernel)]; rfl
theorem v_122_5 (xs : Option (List Int32)) (n : Nat) (b : Bool) (d : Nat) (ml : List Value) (t : T) (Q : Option Value → T → Prop) (st : List Value) : vc xs zH_122 (n + 1) b d 122 5 ml st t Q = vga ml 0 (fun v => vc xs zH_122 n true d 122 6 ml (.ref v :: st) t Q) := by
  rw [vc_q (o := (2, 0, 0, 0, [])) (by decide +kernel)]; rfl
theorem v_122_6 (xs : Option (List Int32)) (n : Nat) (b : Bool) (d : Nat) (ml : List Value) (t : T) (Q : Option Value → T → Prop) (u : Nat) (r : List Value) : vc xs zH_122 (n + 1) b d 122 6 ml (.ref u :: r) t Q = (vtag u = 3 ∧ vc xs zH_122 n true d 122 9 ml (.ref (tref t u 1) :: r) t Q) := by
  rw [vc_q (o := (25, 0, 3, 1, [])) (by decide +kernel)]; rfl
theorem v_122_9 (xs : Option (List Int32)) (n : Nat) (b : Bool) (d : Nat) (ml : List Value) (t : T) (Q : Option Value → T → Prop) (st : List Value) : vc xs zH_122 (n + 1) b d 122 9 ml st t Q = vc xs zH_122 n true d 122 10 ml (.int 0 :: st) t Q := by
  rw [vc_q (o := (0, 0, 0, 0, [])) (by decide +kernel)]; rfl
theorem v_122_10 (xs : Option (List Int32)) (n : Nat) (b : Bool) (d : Nat) (ml : List Value) (t : T) (Q : Option Value → T → Prop) (st : List Value) : vc xs zH_122 (n + 1) b d 122 10 ml st t Q = vgi ml 3 (fun v => vc xs zH_122 n true d 122 11 ml (.int v :: st) t Q) := by
  rw [vc_q (o := (1, 0, 3, 0, [])) (by decide +kernel)]; rfl
theorem v_122_11 (xs : Option (List Int32)) (n : Nat) (b : Bool) (d : Nat) (ml : List Value) (t : T) (Q : Option Value → T → Prop) (w v : Int32) (u : Nat) (r : List Value) : vc xs zH_122 (n + 1) b d 122 11 ml (.int w :: .int v :: .ref u :: r) t Q = (vtag u = 100 ∧ vinb v (vlen u) ∧ vc xs zH_122 n true d 122 12 ml r (tsi t u v.toNatClampNeg w) Q) := by
  rw [vc_q (o := (32, 0, 0, 0, [])) (by decide +kernel)]; rfl
theorem v_122_12 (xs : Option (List Int32)) (n : Nat) (b : Bool) (d : Nat) (ml : List Value) (t : T) (Q : Option Value → T → Prop) (st : List Value) : vc xs zH_122 (n + 1) b d 122 12 ml st t Q = vga ml 0 (fun v => vc xs zH_122 n true d 122 13 ml (.ref v :: st) t Q) := by
  rw [vc_q (o := (2, 0, 0, 0, [])) (by decide +kernel)]; rfl
theorem v_122_13 (xs : Option (List Int32)) (n : Nat) (b : Bool) (d : Nat) (ml : List Value) (t : T) (Q : Option Value → T → Prop) (u : Nat) (r : List Value) : vc xs zH_122 (n + 1) b d 122 13 ml (.ref u :: r) t Q = (vtag u = 3 ∧ vc xs zH_122 n true d 122 16 ml (.ref (tref t u 1) :: r) t Q) := by
  rw [vc_q (o := (25, 0, 3, 1, [])) (by decide +kernel)]; rfl
theorem v_122_16 (xs : Option (List Int32)) (n : Nat) (b : Bool) (d : Nat) (ml : List Value) (t : T) (Q : Option Value → T → Prop) (st : List Value) : vc xs zH_122 (n + 1) b d 122 16 ml st t Q = vc xs zH_122 n true d 122 17 ml (.int 1 :: st) t Q := by
  rw [vc_q (o := (0, 1, 0, 0, [])) (by decide +kernel)]; rfl
theorem v_122_17 (xs : Option (List Int32)) (n : Nat) (b : Bool) (d : Nat) (ml : List Value) (t : T) (Q : Option Value → T → Prop) (st : List Value) : vc xs zH_122 (n + 1) b d 122 17 ml st t Q = vgi ml 4 (fun v => vc xs zH_122 n true d 122 19 ml (.int v :: st) t Q) := by
  rw [vc_q (o := (1, 0, 4, 1, [])) (by decide +kernel)]; rfl
theorem v_122_19 (xs : Option (List Int32)) (n : Nat) (b : Bool) (d : Nat) (ml : List Value) (t : T) (Q : Option Value → T → Prop) (w v : Int32) (u : Nat) (r : List Value) : vc xs zH_122 (n + 1) b d 122 19 ml (.int w :: .int v :: .ref u :: r) t Q = (vtag u = 100 ∧ vinb v (vlen u) ∧ vc xs zH_122 n true d 122 20 ml r (tsi t u v.toNatClampNeg w) Q) := by
  rw [vc_q (o := (32, 0, 0, 0, [])) (by decide +kernel)]; rfl
theorem v_122_20 (xs : Option (List Int32)) (n : Nat) (b : Bool) (d : Nat) (ml : List Value) (t : T) (Q : Option Value → T → Prop) (st : List Value) : vc xs zH_122 (n + 1) b d 122 20 ml st t Q = vga ml 0 (fun v => vc xs zH_122 n true d 122 21 ml (.ref v :: st) t Q) := by
  rw [vc_q (o := (2, 0, 0, 0, [])) (by decide +kernel)]; rfl
theorem v_122_21 (xs : Option (List Int32)) (n : Nat) (b : Bool) (d : Nat) (ml : List Value) (t : T) (Q : Option Value → T → Prop) (st : List Value) : vc xs zH_122 (n + 1) b d 122 21 ml st t Q = vga ml 0 (fun v => vc xs zH_122 n true d 122 22 ml (.ref v :: st) t Q) := by
  rw [vc_q (o := (2, 0, 0, 0, [])) (by decide +kernel)]; rfl
theorem v_122_22 (xs : Option (List Int32)) (n : Nat) (b : Bool) (d : Nat) (ml : List Value) (t : T) (Q : Option Value → T → Prop) (u : Nat) (r : List Value) : vc xs zH_122 (n + 1) b d 122 22 ml (.ref u :: r) t Q = (vtag u = 3 ∧ vc xs zH_122 n true d 122 25 ml (.ref (tref t u 0) :: r) t Q) := by
  rw [vc_q (o := (25, 0, 3, 0, [])) (by decide +kernel)]; rfl
theorem v_122_25 (xs : Option (List Int32)) (n : Nat) (b : Bool) (d : Nat) (ml : List Value) (t : T) (Q : Option Value → T → Prop) (st : List Value) : vc xs zH_122 (n + 1) b d 122 25 ml st t Q = vgi ml 2 (fun v => vc xs zH_122 n true d 122 26 ml (.int v :: st) t Q) := by
  rw [vc_q (o := (1, 0, 2, 0, [])) (by decide +kernel)]; rfl
theorem v_122_26 (xs : Option (List Int32)) (n : Nat) (b : Bool) (d : Nat) (ml : List Value) (t : T) (Q : Option Value → T → Prop) (v : Int32) (u : Nat) (r : List Value) : vc xs zH_122 (n + 1) b d 122 26 ml (.int v :: .ref u :: r) t Q = (103 ≤ vtag u ∧ vtag u < 108 ∧ vinb v (vlen u) ∧ vc xs zH_122 n true d 122 27 ml (.ref (tref t u v.toNatClampNeg) :: r) t Q) := by
  rw [vc_q (o := (31, 0, 0, 0, [])) (by decide +kernel)]; rfl
theorem v_122_27 (xs : Option (List Int32)) (n : Nat) (b : Bool) (d : Nat) (ml : List Value) (t : T) (Q : Option Value → T → Prop) (st : List Value) : vc xs zH_122 (n + 1) b d 122 27 ml st t Q = (st.all zc1 = true ∧ vtk 2 st [] (fun as rest => rest.length ≤ 8 ∧ vrc as 3 (twc d 123 as t (fun r t' => vc xs zH_122 n true d 122 30 ml (r.toList ++ rest) t' Q)))) := by
  rw [vc_q (o := (36, 0, 123, 1, [(0, 3)])) (by decide +kernel)]; rfl
theorem v_122_30 (xs : Option (List Int32)) (n : Nat) (b : Bool) (d : Nat) (ml : List Value) (t : T) (Q : Option Value → T → Prop) (v : Int32) : vc xs zH_122 (n + 1) b d 122 30 ml [.int v] t Q = Q (some (.int v)) t := by
  rw [vc_q (o := (40, 0, 0, 0, [])) (by decide +kernel)]; rfl
def zH_123 : List Nat := []
theorem v_123_0 (xs : Option (List Int32)) (n : Nat) (b : Bool) (d : Nat) (ml : List Value) (t : T) (Q : Option Value → T → Prop) (st : List Value) : vc xs zH_123 (n + 1) b d 123 0 ml st t Q = vga ml 1 (fun v => vc xs zH_123 n true d 123 1 ml (.ref v :: st) t Q) := by
  rw [vc_q (o := (2, 0, 1, 0, [])) (by decide +kernel)]; rfl
theorem v_123_1 (xs : Option (List Int32)) (n : Nat) (b : Bool) (d : Nat) (ml : List Value) (t : T) (Q : Option Value → T → Prop) (u : Nat) (r : List Value) : vc xs zH_123 (n + 1) b d 123 1 ml (.ref u :: r) t Q = (vtag u = 2 ∧ vc xs zH_123 n true d 123 4 ml (.int (t.1 u 0) :: r) t Q) := by
  rw [vc_q (o := (24, 0, 2, 0, [])) (by decide +kernel)]; rfl
theorem v_123_4 (xs : Option (List Int32)) (n : Nat) (b : Bool) (d : Nat) (ml : List Value) (t : T) (Q : Option Value → T → Prop) (u : Int32) (r : List Value) : vc xs zH_123 (n + 1) b d 123 4 ml (.int u :: r) t Q = vsw (fun p => vc xs zH_123 n true d 123 p ml r t Q) u [(0, 52), (1, 57), (2, 91), (3, 117), (4, 134), (5, 174), (6, 215), (7, 221)] 227 := by
  rw [vc_q (o := (23, 0, 227, 0, [(0, 52), (1, 57), (2, 91), (3, 117), (4, 134), (5, 174), (6, 215), (7, 221)])) (by decide +kernel)]; rfl
theorem v_123_52 (xs : Option (List Int32)) (n : Nat) (b : Bool) (d : Nat) (ml : List Value) (t : T) (Q : Option Value → T → Prop) (st : List Value) : vc xs zH_123 (n + 1) b d 123 52 ml st t Q = vga ml 1 (fun v => vc xs zH_123 n true d 123 53 ml (.ref v :: st) t Q) := by
  rw [vc_q (o := (2, 0, 1, 0, [])) (by decide +kernel)]; rfl
theorem v_123_53 (xs : Option (List Int32)) (n : Nat) (b : Bool) (d : Nat) (ml : List Value) (t : T) (Q : Option Value → T → Prop) (u : Nat) (r : List Value) : vc xs zH_123 (n + 1) b d 123 53 ml (.ref u :: r) t Q = (vtag u = 2 ∧ vc xs zH_123 n true d 123 56 ml (.int (t.1 u 1) :: r) t Q) := by
  rw [vc_q (o := (24, 0, 2, 1, [])) (by decide +kernel)]; rfl
theorem v_123_56 (xs : Option (List Int32)) (n : Nat) (b : Bool) (d : Nat) (ml : List Value) (t : T) (Q : Option Value → T → Prop) (v : Int32) : vc xs zH_123 (n + 1) b d 123 56 ml [.int v] t Q = Q (some (.int v)) t := by
  rw [vc_q (o := (40, 0, 0, 0, [])) (by decide +kernel)]; rfl
theorem v_123_57 (xs : Option (List Int32)) (n : Nat) (b : Bool) (d : Nat) (ml : List Value) (t : T) (Q : Option Value → T → Prop) (st : List Value) : vc xs zH_123 (n + 1) b d 123 57 ml st t Q = vga ml 0 (fun v => vc xs zH_123 n true d 123 58 ml (.ref v :: st) t Q) := by
  rw [vc_q (o := (2, 0, 0, 0, [])) (by decide +kernel)]; rfl
theorem v_123_58 (xs : Option (List Int32)) (n : Nat) (b : Bool) (d : Nat) (ml : List Value) (t : T) (Q : Option Value → T → Prop) (u : Nat) (r : List Value) : vc xs zH_123 (n + 1) b d 123 58 ml (.ref u :: r) t Q = (vtag u = 3 ∧ vc xs zH_123 n true d 123 61 ml (.ref (tref t u 3) :: r) t Q) := by
  rw [vc_q (o := (25, 0, 3, 3, [])) (by decide +kernel)]; rfl
theorem v_123_61 (xs : Option (List Int32)) (n : Nat) (b : Bool) (d : Nat) (ml : List Value) (t : T) (Q : Option Value → T → Prop) (u : Nat) (r : List Value) : vc xs zH_123 (n + 1) b d 123 61 ml (.ref u :: r) t Q = (vtag u = 4 ∧ vc xs zH_123 n true d 123 64 ml (.ref (tref t u 1) :: r) t Q) := by
  rw [vc_q (o := (25, 0, 4, 1, [])) (by decide +kernel)]; rfl
theorem v_123_64 (xs : Option (List Int32)) (n : Nat) (b : Bool) (d : Nat) (ml : List Value) (t : T) (Q : Option Value → T → Prop) (st : List Value) : vc xs zH_123 (n + 1) b d 123 64 ml st t Q = vga ml 1 (fun v => vc xs zH_123 n true d 123 65 ml (.ref v :: st) t Q) := by
  rw [vc_q (o := (2, 0, 1, 0, [])) (by decide +kernel)]; rfl
theorem v_123_65 (xs : Option (List Int32)) (n : Nat) (b : Bool) (d : Nat) (ml : List Value) (t : T) (Q : Option Value → T → Prop) (u : Nat) (r : List Value) : vc xs zH_123 (n + 1) b d 123 65 ml (.ref u :: r) t Q = (vtag u = 2 ∧ vc xs zH_123 n true d 123 68 ml (.int (t.1 u 1) :: r) t Q) := by
  rw [vc_q (o := (24, 0, 2, 1, [])) (by decide +kernel)]; rfl
theorem v_123_68 (xs : Option (List Int32)) (n : Nat) (b : Bool) (d : Nat) (ml : List Value) (t : T) (Q : Option Value → T → Prop) (st : List Value) : vc xs zH_123 (n + 1) b d 123 68 ml st t Q = vga ml 0 (fun v => vc xs zH_123 n true d 123 69 ml (.ref v :: st) t Q) := by
  rw [vc_q (o := (2, 0, 0, 0, [])) (by decide +kernel)]; rfl
theorem v_123_69 (xs : Option (List Int32)) (n : Nat) (b : Bool) (d : Nat) (ml : List Value) (t : T) (Q : Option Value → T → Prop) (u : Nat) (r : List Value) : vc xs zH_123 (n + 1) b d 123 69 ml (.ref u :: r) t Q = (vtag u = 3 ∧ vc xs zH_123 n true d 123 72 ml (.ref (tref t u 1) :: r) t Q) := by
  rw [vc_q (o := (25, 0, 3, 1, [])) (by decide +kernel)]; rfl
theorem v_123_72 (xs : Option (List Int32)) (n : Nat) (b : Bool) (d : Nat) (ml : List Value) (t : T) (Q : Option Value → T → Prop) (st : List Value) : vc xs zH_123 (n + 1) b d 123 72 ml st t Q = vga ml 1 (fun v => vc xs zH_123 n true d 123 73 ml (.ref v :: st) t Q) := by
  rw [vc_q (o := (2, 0, 1, 0, [])) (by decide +kernel)]; rfl
theorem v_123_73 (xs : Option (List Int32)) (n : Nat) (b : Bool) (d : Nat) (ml : List Value) (t : T) (Q : Option Value → T → Prop) (u : Nat) (r : List Value) : vc xs zH_123 (n + 1) b d 123 73 ml (.ref u :: r) t Q = (vtag u = 2 ∧ vc xs zH_123 n true d 123 76 ml (.int (t.1 u 2) :: r) t Q) := by
  rw [vc_q (o := (24, 0, 2, 2, [])) (by decide +kernel)]; rfl
theorem v_123_76 (xs : Option (List Int32)) (n : Nat) (b : Bool) (d : Nat) (ml : List Value) (t : T) (Q : Option Value → T → Prop) (v : Int32) (u : Nat) (r : List Value) : vc xs zH_123 (n + 1) b d 123 76 ml (.int v :: .ref u :: r) t Q = (vtag u = 100 ∧ vinb v (vlen u) ∧ vc xs zH_123 n true d 123 77 ml (.int (t.1 u v.toNatClampNeg) :: r) t Q) := by
  rw [vc_q (o := (29, 0, 0, 0, [])) (by decide +kernel)]; rfl
theorem v_123_77 (xs : Option (List Int32)) (n : Nat) (b : Bool) (d : Nat) (ml : List Value) (t : T) (Q : Option Value → T → Prop) (st : List Value) : vc xs zH_123 (n + 1) b d 123 77 ml st t Q = vga ml 0 (fun v => vc xs zH_123 n true d 123 78 ml (.ref v :: st) t Q) := by
  rw [vc_q (o := (2, 0, 0, 0, [])) (by decide +kernel)]; rfl
theorem v_123_78 (xs : Option (List Int32)) (n : Nat) (b : Bool) (d : Nat) (ml : List Value) (t : T) (Q : Option Value → T → Prop) (u : Nat) (r : List Value) : vc xs zH_123 (n + 1) b d 123 78 ml (.ref u :: r) t Q = (vtag u = 3 ∧ vc xs zH_123 n true d 123 81 ml (.ref (tref t u 1) :: r) t Q) := by
  rw [vc_q (o := (25, 0, 3, 1, [])) (by decide +kernel)]; rfl
theorem v_123_81 (xs : Option (List Int32)) (n : Nat) (b : Bool) (d : Nat) (ml : List Value) (t : T) (Q : Option Value → T → Prop) (st : List Value) : vc xs zH_123 (n + 1) b d 123 81 ml st t Q = vga ml 1 (fun v => vc xs zH_123 n true d 123 82 ml (.ref v :: st) t Q) := by
  rw [vc_q (o := (2, 0, 1, 0, [])) (by decide +kernel)]; rfl
theorem v_123_82 (xs : Option (List Int32)) (n : Nat) (b : Bool) (d : Nat) (ml : List Value) (t : T) (Q : Option Value → T → Prop) (u : Nat) (r : List Value) : vc xs zH_123 (n + 1) b d 123 82 ml (.ref u :: r) t Q = (vtag u = 2 ∧ vc xs zH_123 n true d 123 85 ml (.int (t.1 u 3) :: r) t Q) := by
  rw [vc_q (o := (24, 0, 2, 3, [])) (by decide +kernel)]; rfl
theorem v_123_85 (xs : Option (List Int32)) (n : Nat) (b : Bool) (d : Nat) (ml : List Value) (t : T) (Q : Option Value → T → Prop) (v : Int32) (u : Nat) (r : List Value) : vc xs zH_123 (n + 1) b d 123 85 ml (.int v :: .ref u :: r) t Q = (vtag u = 100 ∧ vinb v (vlen u) ∧ vc xs zH_123 n true d 123 86 ml (.int (t.1 u v.toNatClampNeg) :: r) t Q) := by
  rw [vc_q (o := (29, 0, 0, 0, [])) (by decide +kernel)]; rfl
theorem v_123_86 (xs : Option (List Int32)) (n : Nat) (b : Bool) (d : Nat) (ml : List Value) (t : T) (Q : Option Value → T → Prop) (st : List Value) : vc xs zH_123 (n + 1) b d 123 86 ml st t Q = (st.all zc1 = true ∧ vtk 3 st [] (fun as rest => rest.length ≤ 8 ∧ twc d 161 as t (fun r t' => vc xs zH_123 n true d 123 89 ml (r.toList ++ rest) t' Q))) := by
  rw [vc_q (o := (37, 0, 161, 3, [])) (by decide +kernel)]; rfl
theorem v_123_89 (xs : Option (List Int32)) (n : Nat) (b : Bool) (d : Nat) (ml : List Value) (t : T) (Q : Option Value → T → Prop) (v : Int32) (u : Nat) (r : List Value) : vc xs zH_123 (n + 1) b d 123 89 ml (.int v :: .ref u :: r) t Q = (vtag u = 100 ∧ vinb v (vlen u) ∧ vc xs zH_123 n true d 123 90 ml (.int (t.1 u v.toNatClampNeg) :: r) t Q) := by
  rw [vc_q (o := (29, 0, 0, 0, [])) (by decide +kernel)]; rfl
theorem v_123_90 (xs : Option (List Int32)) (n : Nat) (b : Bool) (d : Nat) (ml : List Value) (t : T) (Q : Option Value → T → Prop) (v : Int32) : vc xs zH_123 (n + 1) b d 123 90 ml [.int v] t Q = Q (some (.int v)) t := by
  rw [vc_q (o := (40, 0, 0, 0, [])) (by decide +kernel)]; rfl
theorem v_123_91 (xs : Option (List Int32)) (n : Nat) (b : Bool) (d : Nat) (ml : List Value) (t : T) (Q : Option Value → T → Prop) (st : List Value) : vc xs zH_123 (n + 1) b d 123 91 ml st t Q = vga ml 0 (fun v => vc xs zH_123 n true d 123 92 ml (.ref v :: st) t Q) := by
  rw [vc_q (o := (2, 0, 0, 0, [])) (by decide +kernel)]; rfl
theorem v_123_92 (xs : Option (List Int32)) (n : Nat) (b : Bool) (d : Nat) (ml : List Value) (t : T) (Q : Option Value → T → Prop) (u : Nat) (r : List Value) : vc xs zH_123 (n + 1) b d 123 92 ml (.ref u :: r) t Q = (vtag u = 3 ∧ vc xs zH_123 n true d 123 95 ml (.ref (tref t u 3) :: r) t Q) := by
  rw [vc_q (o := (25, 0, 3, 3, [])) (by decide +kernel)]; rfl
theorem v_123_95 (xs : Option (List Int32)) (n : Nat) (b : Bool) (d : Nat) (ml : List Value) (t : T) (Q : Option Value → T → Prop) (st : List Value) : vc xs zH_123 (n + 1) b d 123 95 ml st t Q = vga ml 0 (fun v => vc xs zH_123 n true d 123 96 ml (.ref v :: st) t Q) := by
  rw [vc_q (o := (2, 0, 0, 0, [])) (by decide +kernel)]; rfl
theorem v_123_96 (xs : Option (List Int32)) (n : Nat) (b : Bool) (d : Nat) (ml : List Value) (t : T) (Q : Option Value → T → Prop) (u : Nat) (r : List Value) : vc xs zH_123 (n + 1) b d 123 96 ml (.ref u :: r) t Q = (vtag u = 3 ∧ vc xs zH_123 n true d 123 99 ml (.ref (tref t u 1) :: r) t Q) := by
  rw [vc_q (o := (25, 0, 3, 1, [])) (by decide +kernel)]; rfl
theorem v_123_99 (xs : Option (List Int32)) (n : Nat) (b : Bool) (d : Nat) (ml : List Value) (t : T) (Q : Option Value → T → Prop) (st : List Value) : vc xs zH_123 (n + 1) b d 123 99 ml st t Q = vga ml 1 (fun v => vc xs zH_123 n true d 123 100 ml (.ref v :: st) t Q) := by
  rw [vc_q (o := (2, 0, 1, 0, [])) (by decide +kernel)]; rfl
theorem v_123_100 (xs : Option (List Int32)) (n : Nat) (b : Bool) (d : Nat) (ml : List Value) (t : T) (Q : Option Value → T → Prop) (u : Nat) (r : List Value) : vc xs zH_123 (n + 1) b d 123 100 ml (.ref u :: r) t Q = (vtag u = 2 ∧ vc xs zH_123 n true d 123 103 ml (.int (t.1 u 2) :: r) t Q) := by
  rw [vc_q (o := (24, 0, 2, 2, [])) (by decide +kernel)]; rfl
theorem v_123_103 (xs : Option (List Int32)) (n : Nat) (b : Bool) (d : Nat) (ml : List Value) (t : T) (Q : Option Value → T → Prop) (v : Int32) (u : Nat) (r : List Value) : vc xs zH_123 (n + 1) b d 123 103 ml (.int v :: .ref u :: r) t Q = (vtag u = 100 ∧ vinb v (vlen u) ∧ vc xs zH_123 n true d 123 104 ml (.int (t.1 u v.toNatClampNeg) :: r) t Q) := by
  rw [vc_q (o := (29, 0, 0, 0, [])) (by decide +kernel)]; rfl
theorem v_123_104 (xs : Option (List Int32)) (n : Nat) (b : Bool) (d : Nat) (ml : List Value) (t : T) (Q : Option Value → T → Prop) (st : List Value) : vc xs zH_123 (n + 1) b d 123 104 ml st t Q = vga ml 0 (fun v => vc xs zH_123 n true d 123 105 ml (.ref v :: st) t Q) := by
  rw [vc_q (o := (2, 0, 0, 0, [])) (by decide +kernel)]; rfl
theorem v_123_105 (xs : Option (List Int32)) (n : Nat) (b : Bool) (d : Nat) (ml : List Value) (t : T) (Q : Option Value → T → Prop) (u : Nat) (r : List Value) : vc xs zH_123 (n + 1) b d 123 105 ml (.ref u :: r) t Q = (vtag u = 3 ∧ vc xs zH_123 n true d 123 108 ml (.ref (tref t u 1) :: r) t Q) := by
  rw [vc_q (o := (25, 0, 3, 1, [])) (by decide +kernel)]; rfl
theorem v_123_108 (xs : Option (List Int32)) (n : Nat) (b : Bool) (d : Nat) (ml : List Value) (t : T) (Q : Option Value → T → Prop) (st : List Value) : vc xs zH_123 (n + 1) b d 123 108 ml st t Q = vga ml 1 (fun v => vc xs zH_123 n true d 123 109 ml (.ref v :: st) t Q) := by
  rw [vc_q (o := (2, 0, 1, 0, [])) (by decide +kernel)]; rfl
theorem v_123_109 (xs : Option (List Int32)) (n : Nat) (b : Bool) (d : Nat) (ml : List Value) (t : T) (Q : Option Value → T → Prop) (u : Nat) (r : List Value) : vc xs zH_123 (n + 1) b d 123 109 ml (.ref u :: r) t Q = (vtag u = 2 ∧ vc xs zH_123 n true d 123 112 ml (.int (t.1 u 3) :: r) t Q) := by
  rw [vc_q (o := (24, 0, 2, 3, [])) (by decide +kernel)]; rfl
theorem v_123_112 (xs : Option (List Int32)) (n : Nat) (b : Bool) (d : Nat) (ml : List Value) (t : T) (Q : Option Value → T → Prop) (v : Int32) (u : Nat) (r : List Value) : vc xs zH_123 (n + 1) b d 123 112 ml (.int v :: .ref u :: r) t Q = (vtag u = 100 ∧ vinb v (vlen u) ∧ vc xs zH_123 n true d 123 113 ml (.int (t.1 u v.toNatClampNeg) :: r) t Q) := by
  rw [vc_q (o := (29, 0, 0, 0, [])) (by decide +kernel)]; rfl
theorem v_123_113 (xs : Option (List Int32)) (n : Nat) (b : Bool) (d : Nat) (ml : List Value) (t : T) (Q : Option Value → T → Prop) (st : List Value) : vc xs zH_123 (n + 1) b d 123 113 ml st t Q = (st.all zc1 = true ∧ vtk 3 st [] (fun as rest => rest.length ≤ 8 ∧ vrc as 4 (twc d 164 as t (fun r t' => vc xs zH_123 n true d 123 116 ml (r.toList ++ rest) t' Q)))) := by
  rw [vc_q (o := (36, 0, 164, 2, [(0, 4)])) (by decide +kernel)]; rfl
theorem v_123_116 (xs : Option (List Int32)) (n : Nat) (b : Bool) (d : Nat) (ml : List Value) (t : T) (Q : Option Value → T → Prop) (v : Int32) : vc xs zH_123 (n + 1) b d 123 116 ml [.int v] t Q = Q (some (.int v)) t := by
  rw [vc_q (o := (40, 0, 0, 0, [])) (by decide +kernel)]; rfl
theorem v_123_117 (xs : Option (List Int32)) (n : Nat) (b : Bool) (d : Nat) (ml : List Value) (t : T) (Q : Option Value → T → Prop) (st : List Value) : vc xs zH_123 (n + 1) b d 123 117 ml st t Q = vga ml 0 (fun v => vc xs zH_123 n true d 123 118 ml (.ref v :: st) t Q) := by
  rw [vc_q (o := (2, 0, 0, 0, [])) (by decide +kernel)]; rfl
theorem v_123_118 (xs : Option (List Int32)) (n : Nat) (b : Bool) (d : Nat) (ml : List Value) (t : T) (Q : Option Value → T → Prop) (st : List Value) : vc xs zH_123 (n + 1) b d 123 118 ml st t Q = vga ml 0 (fun v => vc xs zH_123 n true d 123 119 ml (.ref v :: st) t Q) := by
  rw [vc_q (o := (2, 0, 0, 0, [])) (by decide +kernel)]; rfl
theorem v_123_119 (xs : Option (List Int32)) (n : Nat) (b : Bool) (d : Nat) (ml : List Value) (t : T) (Q : Option Value → T → Prop) (u : Nat) (r : List Value) : vc xs zH_123 (n + 1) b d 123 119 ml (.ref u :: r) t Q = (vtag u = 3 ∧ vc xs zH_123 n true d 123 122 ml (.ref (tref t u 0) :: r) t Q) := by
  rw [vc_q (o := (25, 0, 3, 0, [])) (by decide +kernel)]; rfl
theorem v_123_122 (xs : Option (List Int32)) (n : Nat) (b : Bool) (d : Nat) (ml : List Value) (t : T) (Q : Option Value → T → Prop) (st : List Value) : vc xs zH_123 (n + 1) b d 123 122 ml st t Q = vga ml 1 (fun v => vc xs zH_123 n true d 123 123 ml (.ref v :: st) t Q) := by
  rw [vc_q (o := (2, 0, 1, 0, [])) (by decide +kernel)]; rfl
theorem v_123_123 (xs : Option (List Int32)) (n : Nat) (b : Bool) (d : Nat) (ml : List Value) (t : T) (Q : Option Value → T → Prop) (u : Nat) (r : List Value) : vc xs zH_123 (n + 1) b d 123 123 ml (.ref u :: r) t Q = (vtag u = 2 ∧ vc xs zH_123 n true d 123 126 ml (.int (t.1 u 3) :: r) t Q) := by
  rw [vc_q (o := (24, 0, 2, 3, [])) (by decide +kernel)]; rfl
theorem v_123_126 (xs : Option (List Int32)) (n : Nat) (b : Bool) (d : Nat) (ml : List Value) (t : T) (Q : Option Value → T → Prop) (v : Int32) (u : Nat) (r : List Value) : vc xs zH_123 (n + 1) b d 123 126 ml (.int v :: .ref u :: r) t Q = (103 ≤ vtag u ∧ vtag u < 108 ∧ vinb v (vlen u) ∧ vc xs zH_123 n true d 123 127 ml (.ref (tref t u v.toNatClampNeg) :: r) t Q) := by
  rw [vc_q (o := (31, 0, 0, 0, [])) (by decide +kernel)]; rfl
theorem v_123_127 (xs : Option (List Int32)) (n : Nat) (b : Bool) (d : Nat) (ml : List Value) (t : T) (Q : Option Value → T → Prop) (st : List Value) : vc xs zH_123 (n + 1) b d 123 127 ml st t Q = (st.all zc1 = true ∧ vtk 2 st [] (fun as rest => rest.length ≤ 8 ∧ vrc as 3 (twc d 123 as t (fun r t' => vc xs zH_123 n true d 123 130 ml (r.toList ++ rest) t' Q)))) := by
  rw [vc_q (o := (36, 0, 123, 1, [(0, 3)])) (by decide +kernel)]; rfl
theorem v_123_130 (xs : Option (List Int32)) (n : Nat) (b : Bool) (d : Nat) (ml : List Value) (t : T) (Q : Option Value → T → Prop) (st : List Value) : vc xs zH_123 (n + 1) b d 123 130 ml st t Q = (st.all zc1 = true ∧ vtk 1 st [] (fun as rest => rest.length ≤ 8 ∧ twc d 129 as t (fun r t' => vc xs zH_123 n true d 123 133 ml (r.toList ++ rest) t' Q))) := by
  rw [vc_q (o := (37, 0, 129, 1, [])) (by decide +kernel)]; rfl
theorem v_123_133 (xs : Option (List Int32)) (n : Nat) (b : Bool) (d : Nat) (ml : List Value) (t : T) (Q : Option Value → T → Prop) (v : Int32) : vc xs zH_123 (n + 1) b d 123 133 ml [.int v] t Q = Q (some (.int v)) t := by
  rw [vc_q (o := (40, 0, 0, 0, [])) (by decide +kernel)]; rfl
theorem v_123_134 (xs : Option (List Int32)) (n : Nat) (b : Bool) (d : Nat) (ml : List Value) (t : T) (Q : Option Value → T → Prop) (st : List Value) : vc xs zH_123 (n + 1) b d 123 134 ml st t Q = vga ml 0 (fun v => vc xs zH_123 n true d 123 135 ml (.ref v :: st) t Q) := by
  rw [vc_q (o := (2, 0, 0, 0, [])) (by decide +kernel)]; rfl
theorem v_123_135 (xs : Option (List Int32)) (n : Nat) (b : Bool) (d : Nat) (ml : List Value) (t : T) (Q : Option Value → T → Prop) (st : List Value) : vc xs zH_123 (n + 1) b d 123 135 ml st t Q = vga ml 0 (fun v => vc xs zH_123 n true d 123 136 ml (.ref v :: st) t Q) := by
  rw [vc_q (o := (2, 0, 0, 0, [])) (by decide +kernel)]; rfl
theorem v_123_136 (xs : Option (List Int32)) (n : Nat) (b : Bool) (d : Nat) (ml : List Value) (t : T) (Q : Option Value → T → Prop) (u : Nat) (r : List Value) : vc xs zH_123 (n + 1) b d 123 136 ml (.ref u :: r) t Q = (vtag u = 3 ∧ vc xs zH_123 n true d 123 139 ml (.ref (tref t u 0) :: r) t Q) := by
  rw [vc_q (o := (25, 0, 3, 0, [])) (by decide +kernel)]; rfl
theorem v_123_139 (xs : Option (List Int32)) (n : Nat) (b : Bool) (d : Nat) (ml : List Value) (t : T) (Q : Option Value → T → Prop) (st : List Value) : vc xs zH_123 (n + 1) b d 123 139 ml st t Q = vga ml 1 (fun v => vc xs zH_123 n true d 123 140 ml (.ref v :: st) t Q) := by
  rw [vc_q (o := (2, 0, 1, 0, [])) (by decide +kernel)]; rfl
theorem v_123_140 (xs : Option (List Int32)) (n : Nat) (b : Bool) (d : Nat) (ml : List Value) (t : T) (Q : Option Value → T → Prop) (u : Nat) (r : List Value) : vc xs zH_123 (n + 1) b d 123 140 ml (.ref u :: r) t Q = (vtag u = 2 ∧ vc xs zH_123 n true d 123 143 ml (.int (t.1 u 3) :: r) t Q) := by
  rw [vc_q (o := (24, 0, 2, 3, [])) (by decide +kernel)]; rfl
theorem v_123_143 (xs : Option (List Int32)) (n : Nat) (b : Bool) (d : Nat) (ml : List Value) (t : T) (Q : Option Value → T → Prop) (v : Int32) (u : Nat) (r : List Value) : vc xs zH_123 (n + 1) b d 123 143 ml (.int v :: .ref u :: r) t Q = (103 ≤ vtag u ∧ vtag u < 108 ∧ vinb v (vlen u) ∧ vc xs zH_123 n true d 123 144 ml (.ref (tref t u v.toNatClampNeg) :: r) t Q) := by
  rw [vc_q (o := (31, 0, 0, 0, [])) (by decide +kernel)]; rfl
theorem v_123_144 (xs : Option (List Int32)) (n : Nat) (b : Bool) (d : Nat) (ml : List Value) (t : T) (Q : Option Value → T → Prop) (st : List Value) : vc xs zH_123 (n + 1) b d 123 144 ml st t Q = (st.all zc1 = true ∧ vtk 2 st [] (fun as rest => rest.length ≤ 8 ∧ vrc as 3 (twc d 123 as t (fun r t' => vc xs zH_123 n true d 123 147 ml (r.toList ++ rest) t' Q)))) := by
  rw [vc_q (o := (36, 0, 123, 1, [(0, 3)])) (by decide +kernel)]; rfl
theorem v_123_147 (xs : Option (List Int32)) (n : Nat) (b : Bool) (d : Nat) (ml : List Value) (t : T) (Q : Option Value → T → Prop) (v : Int32) (r : List Value) : vc xs zH_123 (n + 1) b d 123 147 ml (.int v :: r) t Q = vset ml 2 (.int v) (fun l => vc xs zH_123 n true d 123 148 l r t Q) := by
  rw [vc_q (o := (3, 0, 2, 0, [])) (by decide +kernel)]; rfl
theorem v_123_148 (xs : Option (List Int32)) (n : Nat) (b : Bool) (d : Nat) (ml : List Value) (t : T) (Q : Option Value → T → Prop) (st : List Value) : vc xs zH_123 (n + 1) b d 123 148 ml st t Q = vgi ml 2 (fun v => vc xs zH_123 n true d 123 149 ml (.int v :: st) t Q) := by
  rw [vc_q (o := (1, 0, 2, 0, [])) (by decide +kernel)]; rfl
theorem v_123_149 (xs : Option (List Int32)) (n : Nat) (b : Bool) (d : Nat) (ml : List Value) (t : T) (Q : Option Value → T → Prop) (u : Int32) (r : List Value) : vc xs zH_123 (n + 1) b d 123 149 ml (.int u :: r) t Q = (if u = 0 then vc xs zH_123 n true d 123 152 ml r t Q else vc xs zH_123 n true d 123 156 ml r t Q) := by
  rw [vc_q (o := (21, 0, 156, 1, [])) (by decide +kernel)]; rfl
theorem v_123_152 (xs : Option (List Int32)) (n : Nat) (b : Bool) (d : Nat) (ml : List Value) (t : T) (Q : Option Value → T → Prop) (st : List Value) : vc xs zH_123 (n + 1) b d 123 152 ml st t Q = vc xs zH_123 n true d 123 153 ml (.int 0 :: st) t Q := by
  rw [vc_q (o := (0, 0, 0, 0, [])) (by decide +kernel)]; rfl
theorem v_123_153 (xs : Option (List Int32)) (n : Nat) (b : Bool) (d : Nat) (ml : List Value) (t : T) (Q : Option Value → T → Prop) (st : List Value) : vc xs zH_123 (n + 1) b d 123 153 ml st t Q = vc xs zH_123 n true d 123 173 ml st t Q := by
  rw [vc_q (o := (22, 0, 173, 0, [])) (by decide +kernel)]; rfl
theorem v_123_156 (xs : Option (List Int32)) (n : Nat) (b : Bool) (d : Nat) (ml : List Value) (t : T) (Q : Option Value → T → Prop) (st : List Value) : vc xs zH_123 (n + 1) b d 123 156 ml st t Q = vgi ml 2 (fun v => vc xs zH_123 n true d 123 157 ml (.int v :: st) t Q) := by
  rw [vc_q (o := (1, 0, 2, 0, [])) (by decide +kernel)]; rfl
theorem v_123_157 (xs : Option (List Int32)) (n : Nat) (b : Bool) (d : Nat) (ml : List Value) (t : T) (Q : Option Value → T → Prop) (st : List Value) : vc xs zH_123 (n + 1) b d 123 157 ml st t Q = vga ml 0 (fun v => vc xs zH_123 n true d 123 158 ml (.ref v :: st) t Q) := by
  rw [vc_q (o := (2, 0, 0, 0, [])) (by decide +kernel)]; rfl
theorem v_123_158 (xs : Option (List Int32)) (n : Nat) (b : Bool) (d : Nat) (ml : List Value) (t : T) (Q : Option Value → T → Prop) (st : List Value) : vc xs zH_123 (n + 1) b d 123 158 ml st t Q = vga ml 0 (fun v => vc xs zH_123 n true d 123 159 ml (.ref v :: st) t Q) := by
  rw [vc_q (o := (2, 0, 0, 0, [])) (by decide +kernel)]; rfl
theorem v_123_159 (xs : Option (List Int32)) (n : Nat) (b : Bool) (d : Nat) (ml : List Value) (t : T) (Q : Option Value → T → Prop) (u : Nat) (r : List Value) : vc xs zH_123 (n + 1) b d 123 159 ml (.ref u :: r) t Q = (vtag u = 3 ∧ vc xs zH_123 n true d 123 162 ml (.ref (tref t u 0) :: r) t Q) := by
  rw [vc_q (o := (25, 0, 3, 0, [])) (by decide +kernel)]; rfl
theorem v_123_162 (xs : Option (List Int32)) (n : Nat) (b : Bool) (d : Nat) (ml : List Value) (t : T) (Q : Option Value → T → Prop) (st : List Value) : vc xs zH_123 (n + 1) b d 123 162 ml st t Q = vga ml 1 (fun v => vc xs zH_123 n true d 123 163 ml (.ref v :: st) t Q) := by
  rw [vc_q (o := (2, 0, 1, 0, [])) (by decide +kernel)]; rfl
theorem v_123_163 (xs : Option (List Int32)) (n : Nat) (b : Bool) (d : Nat) (ml : List Value) (t : T) (Q : Option Value → T → Prop) (u : Nat) (r : List Value) : vc xs zH_123 (n + 1) b d 123 163 ml (.ref u :: r) t Q = (vtag u = 2 ∧ vc xs zH_123 n true d 123 166 ml (.int (t.1 u 4) :: r) t Q) := by
  rw [vc_q (o := (24, 0, 2, 4, [])) (by decide +kernel)]; rfl
theorem v_123_166 (xs : Option (List Int32)) (n : Nat) (b : Bool) (d : Nat) (ml : List Value) (t : T) (Q : Option Value → T → Prop) (v : Int32) (u : Nat) (r : List Value) : vc xs zH_123 (n + 1) b d 123 166 ml (.int v :: .ref u :: r) t Q = (103 ≤ vtag u ∧ vtag u < 108 ∧ vinb v (vlen u) ∧ vc xs zH_123 n true d 123 167 ml (.ref (tref t u v.toNatClampNeg) :: r) t Q) := by
  rw [vc_q (o := (31, 0, 0, 0, [])) (by decide +kernel)]; rfl
theorem v_123_167 (xs : Option (List Int32)) (n : Nat) (b : Bool) (d : Nat) (ml : List Value) (t : T) (Q : Option Value → T → Prop) (st : List Value) : vc xs zH_123 (n + 1) b d 123 167 ml st t Q = (st.all zc1 = true ∧ vtk 2 st [] (fun as rest => rest.length ≤ 8 ∧ vrc as 3 (twc d 123 as t (fun r t' => vc xs zH_123 n true d 123 170 ml (r.toList ++ rest) t' Q)))) := by
  rw [vc_q (o := (36, 0, 123, 1, [(0, 3)])) (by decide +kernel)]; rfl
theorem v_123_170 (xs : Option (List Int32)) (n : Nat) (b : Bool) (d : Nat) (ml : List Value) (t : T) (Q : Option Value → T → Prop) (st : List Value) : vc xs zH_123 (n + 1) b d 123 170 ml st t Q = (st.all zc1 = true ∧ vtk 2 st [] (fun as rest => rest.length ≤ 8 ∧ twc d 130 as t (fun r t' => vc xs zH_123 n true d 123 173 ml (r.toList ++ rest) t' Q))) := by
  rw [vc_q (o := (37, 0, 130, 2, [])) (by decide +kernel)]; rfl
theorem v_123_173 (xs : Option (List Int32)) (n : Nat) (b : Bool) (d : Nat) (ml : List Value) (t : T) (Q : Option Value → T → Prop) (v : Int32) : vc xs zH_123 (n + 1) b d 123 173 ml [.int v] t Q = Q (some (.int v)) t := by
  rw [vc_q (o := (40, 0, 0, 0, [])) (by decide +kernel)]; rfl
theorem v_123_174 (xs : Option (List Int32)) (n : Nat) (b : Bool) (d : Nat) (ml : List Value) (t : T) (Q : Option Value → T → Prop) (st : List Value) : vc xs zH_123 (n + 1) b d 123 174 ml st t Q = vga ml 0 (fun v => vc xs zH_123 n true d 123 175 ml (.ref v :: st) t Q) := by
  rw [vc_q (o := (2, 0, 0, 0, [])) (by decide +kernel)]; rfl
theorem v_123_175 (xs : Option (List Int32)) (n : Nat) (b : Bool) (d : Nat) (ml : List Value) (t : T) (Q : Option Value → T → Prop) (st : List Value) : vc xs zH_123 (n + 1) b d 123 175 ml st t Q = vga ml 0 (fun v => vc xs zH_123 n true d 123 176 ml (.ref v :: st) t Q) := by
  rw [vc_q (o := (2, 0, 0, 0, [])) (by decide +kernel)]; rfl
theorem v_123_176 (xs : Option (List Int32)) (n : Nat) (b : Bool) (d : Nat) (ml : List Value) (t : T) (Q : Option Value → T → Prop) (u : Nat) (r : List Value) : vc xs zH_123 (n + 1) b d 123 176 ml (.ref u :: r) t Q = (vtag u = 3 ∧ vc xs zH_123 n true d 123 179 ml (.ref (tref t u 0) :: r) t Q) := by
  rw [vc_q (o := (25, 0, 3, 0, [])) (by decide +kernel)]; rfl
theorem v_123_179 (xs : Option (List Int32)) (n : Nat) (b : Bool) (d : Nat) (ml : List Value) (t : T) (Q : Option Value → T → Prop) (st : List Value) : vc xs zH_123 (n + 1) b d 123 179 ml st t Q = vga ml 1 (fun v => vc xs zH_123 n true d 123 180 ml (.ref v :: st) t Q) := by
  rw [vc_q (o := (2, 0, 1, 0, [])) (by decide +kernel)]; rfl
theorem v_123_180 (xs : Option (List Int32)) (n : Nat) (b : Bool) (d : Nat) (ml : List Value) (t : T) (Q : Option Value → T → Prop) (u : Nat) (r : List Value) : vc xs zH_123 (n + 1) b d 123 180 ml (.ref u :: r) t Q = (vtag u = 2 ∧ vc xs zH_123 n true d 123 183 ml (.int (t.1 u 3) :: r) t Q) := by
  rw [vc_q (o := (24, 0, 2, 3, [])) (by decide +kernel)]; rfl
theorem v_123_183 (xs : Option (List Int32)) (n : Nat) (b : Bool) (d : Nat) (ml : List Value) (t : T) (Q : Option Value → T → Prop) (v : Int32) (u : Nat) (r : List Value) : vc xs zH_123 (n + 1) b d 123 183 ml (.int v :: .ref u :: r) t Q = (103 ≤ vtag u ∧ vtag u < 108 ∧ vinb v (vlen u) ∧ vc xs zH_123 n true d 123 184 ml (.ref (tref t u v.toNatClampNeg) :: r) t Q) := by
  rw [vc_q (o := (31, 0, 0, 0, [])) (by decide +kernel)]; rfl
theorem v_123_184 (xs : Option (List Int32)) (n : Nat) (b : Bool) (d : Nat) (ml : List Value) (t : T) (Q : Option Value → T → Prop) (st : List Value) : vc xs zH_123 (n + 1) b d 123 184 ml st t Q = (st.all zc1 = true ∧ vtk 2 st [] (fun as rest => rest.length ≤ 8 ∧ vrc as 3 (twc d 123 as t (fun r t' => vc xs zH_123 n true d 123 187 ml (r.toList ++ rest) t' Q)))) := by
  rw [vc_q (o := (36, 0, 123, 1, [(0, 3)])) (by decide +kernel)]; rfl
theorem v_123_187 (xs : Option (List Int32)) (n : Nat) (b : Bool) (d : Nat) (ml : List Value) (t : T) (Q : Option Value → T → Prop) (v : Int32) (r : List Value) : vc xs zH_123 (n + 1) b d 123 187 ml (.int v :: r) t Q = vset ml 3 (.int v) (fun l => vc xs zH_123 n true d 123 188 l r t Q) := by
  rw [vc_q (o := (3, 0, 3, 0, [])) (by decide +kernel)]; rfl
theorem v_123_188 (xs : Option (List Int32)) (n : Nat) (b : Bool) (d : Nat) (ml : List Value) (t : T) (Q : Option Value → T → Prop) (st : List Value) : vc xs zH_123 (n + 1) b d 123 188 ml st t Q = vgi ml 3 (fun v => vc xs zH_123 n true d 123 189 ml (.int v :: st) t Q) := by
  rw [vc_q (o := (1, 0, 3, 0, [])) (by decide +kernel)]; rfl
theorem v_123_189 (xs : Option (List Int32)) (n : Nat) (b : Bool) (d : Nat) (ml : List Value) (t : T) (Q : Option Value → T → Prop) (st : List Value) : vc xs zH_123 (n + 1) b d 123 189 ml st t Q = vc xs zH_123 n true d 123 190 ml (.int 1 :: st) t Q := by
  rw [vc_q (o := (0, 1, 0, 0, [])) (by decide +kernel)]; rfl
theorem v_123_190 (xs : Option (List Int32)) (n : Nat) (b : Bool) (d : Nat) (ml : List Value) (t : T) (Q : Option Value → T → Prop) (u v : Int32) (r : List Value) : vc xs zH_123 (n + 1) b d 123 190 ml (.int v :: .int u :: r) t Q = (if u = v then vc xs zH_123 n true d 123 193 ml r t Q else vc xs zH_123 n true d 123 197 ml r t Q) := by
  rw [vc_q (o := (20, 0, 197, 1, [])) (by decide +kernel)]; rfl
theorem v_123_193 (xs : Option (List Int32)) (n : Nat) (b : Bool) (d : Nat) (ml : List Value) (t : T) (Q : Option Value → T → Prop) (st : List Value) : vc xs zH_123 (n + 1) b d 123 193 ml st t Q = vc xs zH_123 n true d 123 194 ml (.int 1 :: st) t Q := by
  rw [vc_q (o := (0, 1, 0, 0, [])) (by decide +kernel)]; rfl
theorem v_123_194 (xs : Option (List Int32)) (n : Nat) (b : Bool) (d : Nat) (ml : List Value) (t : T) (Q : Option Value → T → Prop) (st : List Value) : vc xs zH_123 (n + 1) b d 123 194 ml st t Q = vc xs zH_123 n true d 123 214 ml st t Q := by
  rw [vc_q (o := (22, 0, 214, 0, [])) (by decide +kernel)]; rfl
theorem v_123_197 (xs : Option (List Int32)) (n : Nat) (b : Bool) (d : Nat) (ml : List Value) (t : T) (Q : Option Value → T → Prop) (st : List Value) : vc xs zH_123 (n + 1) b d 123 197 ml st t Q = vgi ml 3 (fun v => vc xs zH_123 n true d 123 198 ml (.int v :: st) t Q) := by
  rw [vc_q (o := (1, 0, 3, 0, [])) (by decide +kernel)]; rfl
theorem v_123_198 (xs : Option (List Int32)) (n : Nat) (b : Bool) (d : Nat) (ml : List Value) (t : T) (Q : Option Value → T → Prop) (st : List Value) : vc xs zH_123 (n + 1) b d 123 198 ml st t Q = vga ml 0 (fun v => vc xs zH_123 n true d 123 199 ml (.ref v :: st) t Q) := by
  rw [vc_q (o := (2, 0, 0, 0, [])) (by decide +kernel)]; rfl
theorem v_123_199 (xs : Option (List Int32)) (n : Nat) (b : Bool) (d : Nat) (ml : List Value) (t : T) (Q : Option Value → T → Prop) (st : List Value) : vc xs zH_123 (n + 1) b d 123 199 ml st t Q = vga ml 0 (fun v => vc xs zH_123 n true d 123 200 ml (.ref v :: st) t Q) := by
  rw [vc_q (o := (2, 0, 0, 0, [])) (by decide +kernel)]; rfl
theorem v_123_200 (xs : Option (List Int32)) (n : Nat) (b : Bool) (d : Nat) (ml : List Value) (t : T) (Q : Option Value → T → Prop) (u : Nat) (r : List Value) : vc xs zH_123 (n + 1) b d 123 200 ml (.ref u :: r) t Q = (vtag u = 3 ∧ vc xs zH_123 n true d 123 203 ml (.ref (tref t u 0) :: r) t Q) := by
  rw [vc_q (o := (25, 0, 3, 0, [])) (by decide +kernel)]; rfl
theorem v_123_203 (xs : Option (List Int32)) (n : Nat) (b : Bool) (d : Nat) (ml : List Value) (t : T) (Q : Option Value → T → Prop) (st : List Value) : vc xs zH_123 (n + 1) b d 123 203 ml st t Q = vga ml 1 (fun v => vc xs zH_123 n true d 123 204 ml (.ref v :: st) t Q) := by
  rw [vc_q (o := (2, 0, 1, 0, [])) (by decide +kernel)]; rfl
theorem v_123_204 (xs : Option (List Int32)) (n : Nat) (b : Bool) (d : Nat) (ml : List Value) (t : T) (Q : Option Value → T → Prop) (u : Nat) (r : List Value) : vc xs zH_123 (n + 1) b d 123 204 ml (.ref u :: r) t Q = (vtag u = 2 ∧ vc xs zH_123 n true d 123 207 ml (.int (t.1 u 4) :: r) t Q) := by
  rw [vc_q (o := (24, 0, 2, 4, [])) (by decide +kernel)]; rfl
theorem v_123_207 (xs : Option (List Int32)) (n : Nat) (b : Bool) (d : Nat) (ml : List Value) (t : T) (Q : Option Value → T → Prop) (v : Int32) (u : Nat) (r : List Value) : vc xs zH_123 (n + 1) b d 123 207 ml (.int v :: .ref u :: r) t Q = (103 ≤ vtag u ∧ vtag u < 108 ∧ vinb v (vlen u) ∧ vc xs zH_123 n true d 123 208 ml (.ref (tref t u v.toNatClampNeg) :: r) t Q) := by
  rw [vc_q (o := (31, 0, 0, 0, [])) (by decide +kernel)]; rfl
theorem v_123_208 (xs : Option (List Int32)) (n : Nat) (b : Bool) (d : Nat) (ml : List Value) (t : T) (Q : Option Value → T → Prop) (st : List Value) : vc xs zH_123 (n + 1) b d 123 208 ml st t Q = (st.all zc1 = true ∧ vtk 2 st [] (fun as rest => rest.length ≤ 8 ∧ vrc as 3 (twc d 123 as t (fun r t' => vc xs zH_123 n true d 123 211 ml (r.toList ++ rest) t' Q)))) := by
  rw [vc_q (o := (36, 0, 123, 1, [(0, 3)])) (by decide +kernel)]; rfl
theorem v_123_211 (xs : Option (List Int32)) (n : Nat) (b : Bool) (d : Nat) (ml : List Value) (t : T) (Q : Option Value → T → Prop) (st : List Value) : vc xs zH_123 (n + 1) b d 123 211 ml st t Q = (st.all zc1 = true ∧ vtk 2 st [] (fun as rest => rest.length ≤ 8 ∧ twc d 131 as t (fun r t' => vc xs zH_123 n true d 123 214 ml (r.toList ++ rest) t' Q))) := by
  rw [vc_q (o := (37, 0, 131, 2, [])) (by decide +kernel)]; rfl
theorem v_123_214 (xs : Option (List Int32)) (n : Nat) (b : Bool) (d : Nat) (ml : List Value) (t : T) (Q : Option Value → T → Prop) (v : Int32) : vc xs zH_123 (n + 1) b d 123 214 ml [.int v] t Q = Q (some (.int v)) t := by
  rw [vc_q (o := (40, 0, 0, 0, [])) (by decide +kernel)]; rfl
theorem v_123_215 (xs : Option (List Int32)) (n : Nat) (b : Bool) (d : Nat) (ml : List Value) (t : T) (Q : Option Value → T → Prop) (st : List Value) : vc xs zH_123 (n + 1) b d 123 215 ml st t Q = vga ml 0 (fun v => vc xs zH_123 n true d 123 216 ml (.ref v :: st) t Q) := by
  rw [vc_q (o := (2, 0, 0, 0, [])) (by decide +kernel)]; rfl
theorem v_123_216 (xs : Option (List Int32)) (n : Nat) (b : Bool) (d : Nat) (ml : List Value) (t : T) (Q : Option Value → T → Prop) (st : List Value) : vc xs zH_123 (n + 1) b d 123 216 ml st t Q = vga ml 1 (fun v => vc xs zH_123 n true d 123 217 ml (.ref v :: st) t Q) := by
  rw [vc_q (o := (2, 0, 1, 0, [])) (by decide +kernel)]; rfl
theorem v_123_217 (xs : Option (List Int32)) (n : Nat) (b : Bool) (d : Nat) (ml : List Value) (t : T) (Q : Option Value → T → Prop) (st : List Value) : vc xs zH_123 (n + 1) b d 123 217 ml st t Q = (st.all zc1 = true ∧ vtk 2 st [] (fun as rest => rest.length ≤ 8 ∧ vrc as 3 (twc d 124 as t (fun r t' => vc xs zH_123 n true d 123 220 ml (r.toList ++ rest) t' Q)))) := by
  rw [vc_q (o := (36, 0, 124, 1, [(0, 3)])) (by decide +kernel)]; rfl
theorem v_123_220 (xs : Option (List Int32)) (n : Nat) (b : Bool) (d : Nat) (ml : List Value) (t : T) (Q : Option Value → T → Prop) (v : Int32) : vc xs zH_123 (n + 1) b d 123 220 ml [.int v] t Q = Q (some (.int v)) t := by
  rw [vc_q (o := (40, 0, 0, 0, [])) (by decide +kernel)]; rfl
theorem v_123_221 (xs : Option (List Int32)) (n : Nat) (b : Bool) (d : Nat) (ml : List Value) (t : T) (Q : Option Value → T → Prop) (st : List Value) : vc xs zH_123 (n + 1) b d 123 221 ml st t Q = vga ml 0 (fun v => vc xs zH_123 n true d 123 222 ml (.ref v :: st) t Q) := by
  rw [vc_q (o := (2, 0, 0, 0, [])) (by decide +kernel)]; rfl
theorem v_123_222 (xs : Option (List Int32)) (n : Nat) (b : Bool) (d : Nat) (ml : List Value) (t : T) (Q : Option Value → T → Prop) (st : List Value) : vc xs zH_123 (n + 1) b d 123 222 ml st t Q = vga ml 1 (fun v => vc xs zH_123 n true d 123 223 ml (.ref v :: st) t Q) := by
  rw [vc_q (o := (2, 0, 1, 0, [])) (by decide +kernel)]; rfl
theorem v_123_223 (xs : Option (List Int32)) (n : Nat) (b : Bool) (d : Nat) (ml : List Value) (t : T) (Q : Option Value → T → Prop) (st : List Value) : vc xs zH_123 (n + 1) b d 123 223 ml st t Q = (st.all zc1 = true ∧ vtk 2 st [] (fun as rest => rest.length ≤ 8 ∧ vrc as 3 (twc d 125 as t (fun r t' => vc xs zH_123 n true d 123 226 ml (r.toList ++ rest) t' Q)))) := by
  rw [vc_q (o := (36, 0, 125, 1, [(0, 3)])) (by decide +kernel)]; rfl
theorem v_123_226 (xs : Option (List Int32)) (n : Nat) (b : Bool) (d : Nat) (ml : List Value) (t : T) (Q : Option Value → T → Prop) (v : Int32) : vc xs zH_123 (n + 1) b d 123 226 ml [.int v] t Q = Q (some (.int v)) t := by
  rw [vc_q (o := (40, 0, 0, 0, [])) (by decide +kernel)]; rfl
theorem v_123_227 (xs : Option (List Int32)) (n : Nat) (b : Bool) (d : Nat) (ml : List Value) (t : T) (Q : Option Value → T → Prop) (st : List Value) : vc xs zH_123 (n + 1) b d 123 227 ml st t Q = vga ml 0 (fun v => vc xs zH_123 n true d 123 228 ml (.ref v :: st) t Q) := by
  rw [vc_q (o := (2, 0, 0, 0, [])) (by decide +kernel)]; rfl
theorem v_123_228 (xs : Option (List Int32)) (n : Nat) (b : Bool) (d : Nat) (ml : List Value) (t : T) (Q : Option Value → T → Prop) (st : List Value) : vc xs zH_123 (n + 1) b d 123 228 ml st t Q = vga ml 1 (fun v => vc xs zH_123 n true d 123 229 ml (.ref v :: st) t Q) := by
  rw [vc_q (o := (2, 0, 1, 0, [])) (by decide +kernel)]; rfl
theorem v_123_229 (xs : Option (List Int32)) (n : Nat) (b : Bool) (d : Nat) (ml : List Value) (t : T) (Q : Option Value → T → Prop) (st : List Value) : vc xs zH_123 (n + 1) b d 123 229 ml st t Q = (st.all zc1 = true ∧ vtk 2 st [] (fun as rest => rest.length ≤ 8 ∧ vrc as 3 (twc d 126 as t (fun r t' => vc xs zH_123 n true d 123 232 ml (r.toList ++ rest) t' Q)))) := by
  rw [vc_q (o := (36, 0, 126, 1, [(0, 3)])) (by decide +kernel)]; rfl
theorem v_123_232 (xs : Option (List Int32)) (n : Nat) (b : Bool) (d : Nat) (ml : List Value) (t : T) (Q : Option Value → T → Prop) (v : Int32) : vc xs zH_123 (n + 1) b d 123 232 ml [.int v] t Q = Q (some (.int v)) t := by
  rw [vc_q (o := (40, 0, 0, 0, [])) (by decide +kernel)]; rfl
def zH_124 : List Nat := [15]
theorem v_124_0 (xs : Option (List Int32)) (n : Nat) (b : Bool) (d : Nat) (ml : List Value) (t : T) (Q : Option Value → T → Prop) (st : List Value) : vc xs zH_124 (n + 1) b d 124 0 ml st t Q = vga ml 0 (fun v => vc xs zH_124 n true d 124 1 ml (.ref v :: st) t Q) := by
  rw [vc_q (o := (2, 0, 0, 0, [])) (by decide +kernel)]; rfl
theorem v_124_1 (xs : Option (List Int32)) (n : Nat) (b : Bool) (d : Nat) (ml : List Value) (t : T) (Q : Option Value → T → Prop) (u : Nat) (r : List Value) : vc xs zH_124 (n + 1) b d 124 1 ml (.ref u :: r) t Q = (vtag u = 3 ∧ vc xs zH_124 n true d 124 4 ml (.ref (tref t u 1) :: r) t Q) := by
  rw [vc_q (o := (25, 0, 3, 1, [])) (by decide +kernel)]; rfl
theorem v_124_4 (xs : Option (List Int32)) (n : Nat) (b : Bool) (d : Nat) (ml : List Value) (t : T) (Q : Option Value → T → Prop) (st : List Value) : vc xs zH_124 (n + 1) b d 124 4 ml st t Q = vga ml 1 (fun v => vc xs zH_124 n true d 124 5 ml (.ref v :: st) t Q) := by
  rw [vc_q (o := (2, 0, 1, 0, [])) (by decide +kernel)]; rfl
theorem v_124_5 (xs : Option (List Int32)) (n : Nat) (b : Bool) (d : Nat) (ml : List Value) (t : T) (Q : Option Value → T → Prop) (u : Nat) (r : List Value) : vc xs zH_124 (n + 1) b d 124 5 ml (.ref u :: r) t Q = (vtag u = 2 ∧ vc xs zH_124 n true d 124 8 ml (.int (t.1 u 1) :: r) t Q) := by
  rw [vc_q (o := (24, 0, 2, 1, [])) (by decide +kernel)]; rfl
theorem v_124_8 (xs : Option (List Int32)) (n : Nat) (b : Bool) (d : Nat) (ml : List Value) (t : T) (Q : Option Value → T → Prop) (v : Int32) (u : Nat) (r : List Value) : vc xs zH_124 (n + 1) b d 124 8 ml (.int v :: .ref u :: r) t Q = (vtag u = 100 ∧ vinb v (vlen u) ∧ vc xs zH_124 n true d 124 9 ml (.int (t.1 u v.toNatClampNeg) :: r) t Q) := by
  rw [vc_q (o := (29, 0, 0, 0, [])) (by decide +kernel)]; rfl
theorem v_124_9 (xs : Option (List Int32)) (n : Nat) (b : Bool) (d : Nat) (ml : List Value) (t : T) (Q : Option Value → T → Prop) (v : Int32) (r : List Value) : vc xs zH_124 (n + 1) b d 124 9 ml (.int v :: r) t Q = vset ml 2 (.int v) (fun l => vc xs zH_124 n true d 124 10 l r t Q) := by
  rw [vc_q (o := (3, 0, 2, 0, [])) (by decide +kernel)]; rfl
theorem v_124_10 (xs : Option (List Int32)) (n : Nat) (b : Bool) (d : Nat) (ml : List Value) (t : T) (Q : Option Value → T → Prop) (st : List Value) : vc xs zH_124 (n + 1) b d 124 10 ml st t Q = vc xs zH_124 n true d 124 11 ml (.int 0 :: st) t Q := by
  rw [vc_q (o := (0, 0, 0, 0, [])) (by decide +kernel)]; rfl
theorem v_124_11 (xs : Option (List Int32)) (n : Nat) (b : Bool) (d : Nat) (ml : List Value) (t : T) (Q : Option Value → T → Prop) (v : Int32) (r : List Value) : vc xs zH_124 (n + 1) b d 124 11 ml (.int v :: r) t Q = vset ml 3 (.int v) (fun l => vc xs zH_124 n true d 124 12 l r t Q) := by
  rw [vc_q (o := (3, 0, 3, 0, [])) (by decide +kernel)]; rfl
theorem v_124_12 (xs : Option (List Int32)) (n : Nat) (b : Bool) (d : Nat) (ml : List Value) (t : T) (Q : Option Value → T → Prop) (st : List Value) : vc xs zH_124 (n + 1) b d 124 12 ml st t Q = vc xs zH_124 n true d 124 13 ml (.int 0 :: st) t Q := by
  rw [vc_q (o := (0, 0, 0, 0, [])) (by decide +kernel)]; rfl
theorem v_124_13 (xs : Option (List Int32)) (n : Nat) (b : Bool) (d : Nat) (ml : List Value) (t : T) (Q : Option Value → T → Prop) (v : Int32) (r : List Value) : vc xs zH_124 (n + 1) b d 124 13 ml (.int v :: r) t Q = vset ml 4 (.int v) (fun l => vc xs zH_124 n true d 124 15 l r t Q) := by
  rw [vc_q (o := (3, 0, 4, 1, [])) (by decide +kernel)]; rfl
theorem v_124_15 (xs : Option (List Int32)) (n : Nat) (d : Nat) (ml : List Value) (t : T) (Q : Option Value → T → Prop) (st : List Value) : vc xs zH_124 (n + 1) false d 124 15 ml st t Q = vgi ml 4 (fun v => vc xs zH_124 n true d 124 17 ml (.int v :: st) t Q) := by
  rw [vc_q (o := (1, 0, 4, 1, [])) (by decide +kernel)]; rfl
theorem h_124_15 (xs : Option (List Int32)) (n d : Nat) (ml st : List Value) (t : T) (Q : Option Value → T → Prop) : vc xs zH_124 (n + 1) true d 124 15 ml st t Q = twp xs d 124 15 ml st t Q := id rfl
theorem v_124_17 (xs : Option (List Int32)) (n : Nat) (b : Bool) (d : Nat) (ml : List Value) (t : T) (Q : Option Value → T → Prop) (st : List Value) : vc xs zH_124 (n + 1) b d 124 17 ml st t Q = vga ml 0 (fun v => vc xs zH_124 n true d 124 18 ml (.ref v :: st) t Q) := by
  rw [vc_q (o := (2, 0, 0, 0, [])) (by decide +kernel)]; rfl
theorem v_124_18 (xs : Option (List Int32)) (n : Nat) (b : Bool) (d : Nat) (ml : List Value) (t : T) (Q : Option Value → T → Prop) (u : Nat) (r : List Value) : vc xs zH_124 (n + 1) b d 124 18 ml (.ref u :: r) t Q = (vtag u = 3 ∧ vc xs zH_124 n true d 124 21 ml (.ref (tref t u 3) :: r) t Q) := by
  rw [vc_q (o := (25, 0, 3, 3, [])) (by decide +kernel)]; rfl
theorem v_124_21 (xs : Option (List Int32)) (n : Nat) (b : Bool) (d : Nat) (ml : List Value) (t : T) (Q : Option Value → T → Prop) (u : Nat) (r : List Value) : vc xs zH_124 (n + 1) b d 124 21 ml (.ref u :: r) t Q = (vtag u = 4 ∧ vc xs zH_124 n true d 124 24 ml (.int (t.1 u 0) :: r) t Q) := by
  rw [vc_q (o := (24, 0, 4, 0, [])) (by decide +kernel)]; rfl
theorem v_124_24 (xs : Option (List Int32)) (n : Nat) (b : Bool) (d : Nat) (ml : List Value) (t : T) (Q : Option Value → T → Prop) (u v : Int32) (r : List Value) : vc xs zH_124 (n + 1) b d 124 24 ml (.int v :: .int u :: r) t Q = (if u < v then vc xs zH_124 n true d 124 27 ml r t Q else vc xs zH_124 n true d 124 67 ml r t Q) := by
  rw [vc_q (o := (20, 0, 67, 3, [])) (by decide +kernel)]; rfl
theorem v_124_27 (xs : Option (List Int32)) (n : Nat) (b : Bool) (d : Nat) (ml : List Value) (t : T) (Q : Option Value → T → Prop) (st : List Value) : vc xs zH_124 (n + 1) b d 124 27 ml st t Q = vgi ml 3 (fun v => vc xs zH_124 n true d 124 28 ml (.int v :: st) t Q) := by
  rw [vc_q (o := (1, 0, 3, 0, [])) (by decide +kernel)]; rfl
theorem v_124_28 (xs : Option (List Int32)) (n : Nat) (b : Bool) (d : Nat) (ml : List Value) (t : T) (Q : Option Value → T → Prop) (st : List Value) : vc xs zH_124 (n + 1) b d 124 28 ml st t Q = vc xs zH_124 n true d 124 29 ml (.int 1 :: st) t Q := by
  rw [vc_q (o := (0, 1, 0, 0, [])) (by decide +kernel)]; rfl
theorem v_124_29 (xs : Option (List Int32)) (n : Nat) (b : Bool) (d : Nat) (ml : List Value) (t : T) (Q : Option Value → T → Prop) (u v : Int32) (r : List Value) : vc xs zH_124 (n + 1) b d 124 29 ml (.int v :: .int u :: r) t Q = (if u = v then vc xs zH_124 n true d 124 67 ml r t Q else vc xs zH_124 n true d 124 32 ml r t Q) := by
  rw [vc_q (o := (20, 0, 67, 0, [])) (by decide +kernel)]; rfl
theorem v_124_32 (xs : Option (List Int32)) (n : Nat) (b : Bool) (d : Nat) (ml : List Value) (t : T) (Q : Option Value → T → Prop) (st : List Value) : vc xs zH_124 (n + 1) b d 124 32 ml st t Q = vga ml 0 (fun v => vc xs zH_124 n true d 124 33 ml (.ref v :: st) t Q) := by
  rw [vc_q (o := (2, 0, 0, 0, [])) (by decide +kernel)]; rfl
theorem v_124_33 (xs : Option (List Int32)) (n : Nat) (b : Bool) (d : Nat) (ml : List Value) (t : T) (Q : Option Value → T → Prop) (u : Nat) (r : List Value) : vc xs zH_124 (n + 1) b d 124 33 ml (.ref u :: r) t Q = (vtag u = 3 ∧ vc xs zH_124 n true d 124 36 ml (.ref (tref t u 1) :: r) t Q) := by
  rw [vc_q (o := (25, 0, 3, 1, [])) (by decide +kernel)]; rfl
theorem v_124_36 (xs : Option (List Int32)) (n : Nat) (b : Bool) (d : Nat) (ml : List Value) (t : T) (Q : Option Value → T → Prop) (st : List Value) : vc xs zH_124 (n + 1) b d 124 36 ml st t Q = vga ml 1 (fun v => vc xs zH_124 n true d 124 37 ml (.ref v :: st) t Q) := by
  rw [vc_q (o := (2, 0, 1, 0, [])) (by decide +kernel)]; rfl
theorem v_124_37 (xs : Option (List Int32)) (n : Nat) (b : Bool) (d : Nat) (ml : List Value) (t : T) (Q : Option Value → T → Prop) (u : Nat) (r : List Value) : vc xs zH_124 (n + 1) b d 124 37 ml (.ref u :: r) t Q = (vtag u = 2 ∧ vc xs zH_124 n true d 124 40 ml (.int (t.1 u 1) :: r) t Q) := by
  rw [vc_q (o := (24, 0, 2, 1, [])) (by decide +kernel)]; rfl
theorem v_124_40 (xs : Option (List Int32)) (n : Nat) (b : Bool) (d : Nat) (ml : List Value) (t : T) (Q : Option Value → T → Prop) (st : List Value) : vc xs zH_124 (n + 1) b d 124 40 ml st t Q = vgi ml 4 (fun v => vc xs zH_124 n true d 124 42 ml (.int v :: st) t Q) := by
  rw [vc_q (o := (1, 0, 4, 1, [])) (by decide +kernel)]; rfl
theorem v_124_42 (xs : Option (List Int32)) (n : Nat) (b : Bool) (d : Nat) (ml : List Value) (t : T) (Q : Option Value → T → Prop) (w v : Int32) (u : Nat) (r : List Value) : vc xs zH_124 (n + 1) b d 124 42 ml (.int w :: .int v :: .ref u :: r) t Q = (vtag u = 100 ∧ vinb v (vlen u) ∧ vc xs zH_124 n true d 124 43 ml r (tsi t u v.toNatClampNeg w) Q) := by
  rw [vc_q (o := (32, 0, 0, 0, [])) (by decide +kernel)]; rfl
theorem v_124_43 (xs : Option (List Int32)) (n : Nat) (b : Bool) (d : Nat) (ml : List Value) (t : T) (Q : Option Value → T → Prop) (st : List Value) : vc xs zH_124 (n + 1) b d 124 43 ml st t Q = vgi ml 3 (fun v => vc xs zH_124 n true d 124 44 ml (.int v :: st) t Q) := by
  rw [vc_q (o := (1, 0, 3, 0, [])) (by decide +kernel)]; rfl
theorem v_124_44 (xs : Option (List Int32)) (n : Nat) (b : Bool) (d : Nat) (ml : List Value) (t : T) (Q : Option Value → T → Prop) (st : List Value) : vc xs zH_124 (n + 1) b d 124 44 ml st t Q = vga ml 0 (fun v => vc xs zH_124 n true d 124 45 ml (.ref v :: st) t Q) := by
  rw [vc_q (o := (2, 0, 0, 0, [])) (by decide +kernel)]; rfl
theorem v_124_45 (xs : Option (List Int32)) (n : Nat) (b : Bool) (d : Nat) (ml : List Value) (t : T) (Q : Option Value → T → Prop) (st : List Value) : vc xs zH_124 (n + 1) b d 124 45 ml st t Q = vga ml 0 (fun v => vc xs zH_124 n true d 124 46 ml (.ref v :: st) t Q) := by
  rw [vc_q (o := (2, 0, 0, 0, [])) (by decide +kernel)]; rfl
theorem v_124_46 (xs : Option (List Int32)) (n : Nat) (b : Bool) (d : Nat) (ml : List Value) (t : T) (Q : Option Value → T → Prop) (u : Nat) (r : List Value) : vc xs zH_124 (n + 1) b d 124 46 ml (.ref u :: r) t Q = (vtag u = 3 ∧ vc xs zH_124 n true d 124 49 ml (.ref (tref t u 0) :: r) t Q) := by
  rw [vc_q (o := (25, 0, 3, 0, [])) (by decide +kernel)]; rfl
theorem v_124_49 (xs : Option (List Int32)) (n : Nat) (b : Bool) (d : Nat) (ml : List Value) (t : T) (Q : Option Value → T → Prop) (st : List Value) : vc xs zH_124 (n + 1) b d 124 49 ml st t Q = vga ml 1 (fun v => vc xs zH_124 n true d 124 50 ml (.ref v :: st) t Q) := by
  rw [vc_q (o := (2, 0, 1, 0, [])) (by decide +kernel)]; rfl
theorem v_124_50 (xs : Option (List Int32)) (n : Nat) (b : Bool) (d : Nat) (ml : List Value) (t : T) (Q : Option Value → T → Prop) (u : Nat) (r : List Value) : vc xs zH_124 (n + 1) b d 124 50 ml (.ref u :: r) t Q = (vtag u = 2 ∧ vc xs zH_124 n true d 124 53 ml (.int (t.1 u 3) :: r) t Q) := by
  rw [vc_q (o := (24, 0, 2, 3, [])) (by decide +kernel)]; rfl
theorem v_124_53 (xs : Option (List Int32)) (n : Nat) (b : Bool) (d : Nat) (ml : List Value) (t : T) (Q : Option Value → T → Prop) (v : Int32) (u : Nat) (r : List Value) : vc xs zH_124 (n + 1) b d 124 53 ml (.int v :: .ref u :: r) t Q = (103 ≤ vtag u ∧ vtag u < 108 ∧ vinb v (vlen u) ∧ vc xs zH_124 n true d 124 54 ml (.ref (tref t u v.toNatClampNeg) :: r) t Q) := by
  rw [vc_q (o := (31, 0, 0, 0, [])) (by decide +kernel)]; rfl
theorem v_124_54 (xs : Option (List Int32)) (n : Nat) (b : Bool) (d : Nat) (ml : List Value) (t : T) (Q : Option Value → T → Prop) (st : List Value) : vc xs zH_124 (n + 1) b d 124 54 ml st t Q = (st.all zc1 = true ∧ vtk 2 st [] (fun as rest => rest.length ≤ 8 ∧ vrc as 3 (twc d 123 as t (fun r t' => vc xs zH_124 n true d 124 57 ml (r.toList ++ rest) t' Q)))) := by
  rw [vc_q (o := (36, 0, 123, 1, [(0, 3)])) (by decide +kernel)]; rfl
theorem v_124_57 (xs : Option (List Int32)) (n : Nat) (b : Bool) (d : Nat) (ml : List Value) (t : T) (Q : Option Value → T → Prop) (st : List Value) : vc xs zH_124 (n + 1) b d 124 57 ml st t Q = (st.all zc1 = true ∧ vtk 2 st [] (fun as rest => rest.length ≤ 8 ∧ twc d 131 as t (fun r t' => vc xs zH_124 n true d 124 60 ml (r.toList ++ rest) t' Q))) := by
  rw [vc_q (o := (37, 0, 131, 2, [])) (by decide +kernel)]; rfl
theorem v_124_60 (xs : Option (List Int32)) (n : Nat) (b : Bool) (d : Nat) (ml : List Value) (t : T) (Q : Option Value → T → Prop) (v : Int32) (r : List Value) : vc xs zH_124 (n + 1) b d 124 60 ml (.int v :: r) t Q = vset ml 3 (.int v) (fun l => vc xs zH_124 n true d 124 61 l r t Q) := by
  rw [vc_q (o := (3, 0, 3, 0, [])) (by decide +kernel)]; rfl
theorem v_124_61 (xs : Option (List Int32)) (n : Nat) (b : Bool) (d : Nat) (ml : List Value) (t : T) (Q : Option Value → T → Prop) (st : List Value) : vc xs zH_124 (n + 1) b d 124 61 ml st t Q = vgi ml 4 (fun v => vset ml 4 (.int (v + 1)) (fun l => vc xs zH_124 n true d 124 64 l st t Q)) := by
  rw [vc_q (o := (5, 1, 4, 0, [])) (by decide +kernel)]; rfl
theorem v_124_64 (xs : Option (List Int32)) (n : Nat) (b : Bool) (d : Nat) (ml : List Value) (t : T) (Q : Option Value → T → Prop) (st : List Value) : vc xs zH_124 (n + 1) b d 124 64 ml st t Q = vc xs zH_124 n true d 124 15 ml st t Q := by
  rw [vc_q (o := (22, 0, 15, 0, [])) (by decide +kernel)]; rfl
theorem v_124_67 (xs : Option (List Int32)) (n : Nat) (b : Bool) (d : Nat) (ml : List Value) (t : T) (Q : Option Value → T → Prop) (st : List Value) : vc xs zH_124 (n + 1) b d 124 67 ml st t Q = vga ml 0 (fun v => vc xs zH_124 n true d 124 68 ml (.ref v :: st) t Q) := by
  rw [vc_q (o := (2, 0, 0, 0, [])) (by decide +kernel)]; rfl
theorem v_124_68 (xs : Option (List Int32)) (n : Nat) (b : Bool) (d : Nat) (ml : List Value) (t : T) (Q : Option Value → T → Prop) (u : Nat) (r : List Value) : vc xs zH_124 (n + 1) b d 124 68 ml (.ref u :: r) t Q = (vtag u = 3 ∧ vc xs zH_124 n true d 124 71 ml (.ref (tref t u 1) :: r) t Q) := by
  rw [vc_q (o := (25, 0, 3, 1, [])) (by decide +kernel)]; rfl
theorem v_124_71 (xs : Option (List Int32)) (n : Nat) (b : Bool) (d : Nat) (ml : List Value) (t : T) (Q : Option Value → T → Prop) (st : List Value) : vc xs zH_124 (n + 1) b d 124 71 ml st t Q = vga ml 1 (fun v => vc xs zH_124 n true d 124 72 ml (.ref v :: st) t Q) := by
  rw [vc_q (o := (2, 0, 1, 0, [])) (by decide +kernel)]; rfl
theorem v_124_72 (xs : Option (List Int32)) (n : Nat) (b : Bool) (d : Nat) (ml : List Value) (t : T) (Q : Option Value → T → Prop) (u : Nat) (r : List Value) : vc xs zH_124 (n + 1) b d 124 72 ml (.ref u :: r) t Q = (vtag u = 2 ∧ vc xs zH_124 n true d 124 75 ml (.int (t.1 u 1) :: r) t Q) := by
  rw [vc_q (o := (24, 0, 2, 1, [])) (by decide +kernel)]; rfl
theorem v_124_75 (xs : Option (List Int32)) (n : Nat) (b : Bool) (d : Nat) (ml : List Value) (t : T) (Q : Option Value → T → Prop) (st : List Value) : vc xs zH_124 (n + 1) b d 124 75 ml st t Q = vgi ml 2 (fun v => vc xs zH_124 n true d 124 76 ml (.int v :: st) t Q) := by
  rw [vc_q (o := (1, 0, 2, 0, [])) (by decide +kernel)]; rfl
theorem v_124_76 (xs : Option (List Int32)) (n : Nat) (b : Bool) (d : Nat) (ml : List Value) (t : T) (Q : Option Value → T → Prop) (w v : Int32) (u : Nat) (r : List Value) : vc xs zH_124 (n + 1) b d 124 76 ml (.int w :: .int v :: .ref u :: r) t Q = (vtag u = 100 ∧ vinb v (vlen u) ∧ vc xs zH_124 n true d 124 77 ml r (tsi t u v.toNatClampNeg w) Q) := by
  rw [vc_q (o := (32, 0, 0, 0, [])) (by decide +kernel)]; rfl
theorem v_124_77 (xs : Option (List Int32)) (n : Nat) (b : Bool) (d : Nat) (ml : List Value) (t : T) (Q : Option Value → T → Prop) (st : List Value) : vc xs zH_124 (n + 1) b d 124 77 ml st t Q = vgi ml 3 (fun v => vc xs zH_124 n true d 124 78 ml (.int v :: st) t Q) := by
  rw [vc_q (o := (1, 0, 3, 0, [])) (by decide +kernel)]; rfl
theorem v_124_78 (xs : Option (List Int32)) (n : Nat) (b : Bool) (d : Nat) (ml : List Value) (t : T) (Q : Option Value → T → Prop) (v : Int32) : vc xs zH_124 (n + 1) b d 124 78 ml [.int v] t Q = Q (some (.int v)) t := by
  rw [vc_q (o := (40, 0, 0, 0, [])) (by decide +kernel)]; rfl
def zH_125 : List Nat := [15]
theorem v_125_0 (xs : Option (List Int32)) (n : Nat) (b : Bool) (d : Nat) (ml : List Value) (t : T) (Q : Option Value → T → Prop) (st : List Value) : vc xs zH_125 (n + 1) b d 125 0 ml st t Q = vga ml 0 (fun v => vc xs zH_125 n true d 125 1 ml (.ref v :: st) t Q) := by
  rw [vc_q (o := (2, 0, 0, 0, [])) (by decide +kernel)]; rfl
theorem v_125_1 (xs : Option (List Int32)) (n : Nat) (b : Bool) (d : Nat) (ml : List Value) (t : T) (Q : Option Value → T → Prop) (u : Nat) (r : List Value) : vc xs zH_125 (n + 1) b d 125 1 ml (.ref u :: r) t Q = (vtag u = 3 ∧ vc xs zH_125 n true d 125 4 ml (.ref (tref t u 1) :: r) t Q) := by
  rw [vc_q (o := (25, 0, 3, 1, [])) (by decide +kernel)]; rfl
theorem v_125_4 (xs : Option (List Int32)) (n : Nat) (b : Bool) (d : Nat) (ml : List Value) (t : T) (Q : Option Value → T → Prop) (st : List Value) : vc xs zH_125 (n + 1) b d 125 4 ml st t Q = vga ml 1 (fun v => vc xs zH_125 n true d 125 5 ml (.ref v :: st) t Q) := by
  rw [vc_q (o := (2, 0, 1, 0, [])) (by decide +kernel)]; rfl
theorem v_125_5 (xs : Option (List Int32)) (n : Nat) (b : Bool) (d : Nat) (ml : List Value) (t : T) (Q : Option Value → T → Prop) (u : Nat) (r : List Value) : vc xs zH_125 (n + 1) b d 125 5 ml (.ref u :: r) t Q = (vtag u = 2 ∧ vc xs zH_125 n true d 125 8 ml (.int (t.1 u 1) :: r) t Q) := by
  rw [vc_q (o := (24, 0, 2, 1, [])) (by decide +kernel)]; rfl
theorem v_125_8 (xs : Option (List Int32)) (n : Nat) (b : Bool) (d : Nat) (ml : List Value) (t : T) (Q : Option Value → T → Prop) (v : Int32) (u : Nat) (r : List Value) : vc xs zH_125 (n + 1) b d 125 8 ml (.int v :: .ref u :: r) t Q = (vtag u = 100 ∧ vinb v (vlen u) ∧ vc xs zH_125 n true d 125 9 ml (.int (t.1 u v.toNatClampNeg) :: r) t Q) := by
  rw [vc_q (o := (29, 0, 0, 0, [])) (by decide +kernel)]; rfl
theorem v_125_9 (xs : Option (List Int32)) (n : Nat) (b : Bool) (d : Nat) (ml : List Value) (t : T) (Q : Option Value → T → Prop) (v : Int32) (r : List Value) : vc xs zH_125 (n + 1) b d 125 9 ml (.int v :: r) t Q = vset ml 2 (.int v) (fun l => vc xs zH_125 n true d 125 10 l r t Q) := by
  rw [vc_q (o := (3, 0, 2, 0, [])) (by decide +kernel)]; rfl
theorem v_125_10 (xs : Option (List Int32)) (n : Nat) (b : Bool) (d : Nat) (ml : List Value) (t : T) (Q : Option Value → T → Prop) (st : List Value) : vc xs zH_125 (n + 1) b d 125 10 ml st t Q = vc xs zH_125 n true d 125 11 ml (.int 1 :: st) t Q := by
  rw [vc_q (o := (0, 1, 0, 0, [])) (by decide +kernel)]; rfl
theorem v_125_11 (xs : Option (List Int32)) (n : Nat) (b : Bool) (d : Nat) (ml : List Value) (t : T) (Q : Option Value → T → Prop) (v : Int32) (r : List Value) : vc xs zH_125 (n + 1) b d 125 11 ml (.int v :: r) t Q = vset ml 3 (.int v) (fun l => vc xs zH_125 n true d 125 12 l r t Q) := by
  rw [vc_q (o := (3, 0, 3, 0, [])) (by decide +kernel)]; rfl
theorem v_125_12 (xs : Option (List Int32)) (n : Nat) (b : Bool) (d : Nat) (ml : List Value) (t : T) (Q : Option Value → T → Prop) (st : List Value) : vc xs zH_125 (n + 1) b d 125 12 ml st t Q = vc xs zH_125 n true d 125 13 ml (.int 0 :: st) t Q := by
  rw [vc_q (o := (0, 0, 0, 0, [])) (by decide +kernel)]; rfl
theorem v_125_13 (xs : Option (List Int32)) (n : Nat) (b : Bool) (d : Nat) (ml : List Value) (t : T) (Q : Option Value → T → Prop) (v : Int32) (r : List Value) : vc xs zH_125 (n + 1) b d 125 13 ml (.int v :: r) t Q = vset ml 4 (.int v) (fun l => vc xs zH_125 n true d 125 15 l r t Q) := by
  rw [vc_q (o := (3, 0, 4, 1, [])) (by decide +kernel)]; rfl
theorem v_125_15 (xs : Option (List Int32)) (n : Nat) (d : Nat) (ml : List Value) (t : T) (Q : Option Value → T → Prop) (st : List Value) : vc xs zH_125 (n + 1) false d 125 15 ml st t Q = vgi ml 4 (fun v => vc xs zH_125 n true d 125 17 ml (.int v :: st) t Q) := by
  rw [vc_q (o := (1, 0, 4, 1, [])) (by decide +kernel)]; rfl
theorem h_125_15 (xs : Option (List Int32)) (n d : Nat) (ml st : List Value) (t : T) (Q : Option Value → T → Prop) : vc xs zH_125 (n + 1) true d 125 15 ml st t Q = twp xs d 125 15 ml st t Q := id rfl
theorem v_125_17 (xs : Option (List Int32)) (n : Nat) (b : Bool) (d : Nat) (ml : List Value) (t : T) (Q : Option Value → T → Prop) (st : List Value) : vc xs zH_125 (n + 1) b d 125 17 ml st t Q = vga ml 0 (fun v => vc xs zH_125 n true d 125 18 ml (.ref v :: st) t Q) := by
  rw [vc_q (o := (2, 0, 0, 0, [])) (by decide +kernel)]; rfl
theorem v_125_18 (xs : Option (List Int32)) (n : Nat) (b : Bool) (d : Nat) (ml : List Value) (t : T) (Q : Option Value → T → Prop) (u : Nat) (r : List Value) : vc xs zH_125 (n + 1) b d 125 18 ml (.ref u :: r) t Q = (vtag u = 3 ∧ vc xs zH_125 n true d 125 21 ml (.ref (tref t u 3) :: r) t Q) := by
  rw [vc_q (o := (25, 0, 3, 3, [])) (by decide +kernel)]; rfl
theorem v_125_21 (xs : Option (List Int32)) (n : Nat) (b : Bool) (d : Nat) (ml : List Value) (t : T) (Q : Option Value → T → Prop) (u : Nat) (r : List Value) : vc xs zH_125 (n + 1) b d 125 21 ml (.ref u :: r) t Q = (vtag u = 4 ∧ vc xs zH_125 n true d 125 24 ml (.int (t.1 u 0) :: r) t Q) := by
  rw [vc_q (o := (24, 0, 4, 0, [])) (by decide +kernel)]; rfl
theorem v_125_24 (xs : Option (List Int32)) (n : Nat) (b : Bool) (d : Nat) (ml : List Value) (t : T) (Q : Option Value → T → Prop) (u v : Int32) (r : List Value) : vc xs zH_125 (n + 1) b d 125 24 ml (.int v :: .int u :: r) t Q = (if u < v then vc xs zH_125 n true d 125 27 ml r t Q else vc xs zH_125 n true d 125 66 ml r t Q) := by
  rw [vc_q (o := (20, 0, 66, 3, [])) (by decide +kernel)]; rfl
theorem v_125_27 (xs : Option (List Int32)) (n : Nat) (b : Bool) (d : Nat) (ml : List Value) (t : T) (Q : Option Value → T → Prop) (st : List Value) : vc xs zH_125 (n + 1) b d 125 27 ml st t Q = vgi ml 3 (fun v => vc xs zH_125 n true d 125 28 ml (.int v :: st) t Q) := by
  rw [vc_q (o := (1, 0, 3, 0, [])) (by decide +kernel)]; rfl
theorem v_125_28 (xs : Option (List Int32)) (n : Nat) (b : Bool) (d : Nat) (ml : List Value) (t : T) (Q : Option Value → T → Prop) (u : Int32) (r : List Value) : vc xs zH_125 (n + 1) b d 125 28 ml (.int u :: r) t Q = (if u = 0 then vc xs zH_125 n true d 125 66 ml r t Q else vc xs zH_125 n true d 125 31 ml r t Q) := by
  rw [vc_q (o := (21, 0, 66, 0, [])) (by decide +kernel)]; rfl
theorem v_125_31 (xs : Option (List Int32)) (n : Nat) (b : Bool) (d : Nat) (ml : List Value) (t : T) (Q : Option Value → T → Prop) (st : List Value) : vc xs zH_125 (n + 1) b d 125 31 ml st t Q = vga ml 0 (fun v => vc xs zH_125 n true d 125 32 ml (.ref v :: st) t Q) := by
  rw [vc_q (o := (2, 0, 0, 0, [])) (by decide +kernel)]; rfl
theorem v_125_32 (xs : Option (List Int32)) (n : Nat) (b : Bool) (d : Nat) (ml : List Value) (t : T) (Q : Option Value → T → Prop) (u : Nat) (r : List Value) : vc xs zH_125 (n + 1) b d 125 32 ml (.ref u :: r) t Q = (vtag u = 3 ∧ vc xs zH_125 n true d 125 35 ml (.ref (tref t u 1) :: r) t Q) := by
  rw [vc_q (o := (25, 0, 3, 1, [])) (by decide +kernel)]; rfl
theorem v_125_35 (xs : Option (List Int32)) (n : Nat) (b : Bool) (d : Nat) (ml : List Value) (t : T) (Q : Option Value → T → Prop) (st : List Value) : vc xs zH_125 (n + 1) b d 125 35 ml st t Q = vga ml 1 (fun v => vc xs zH_125 n true d 125 36 ml (.ref v :: st) t Q) := by
  rw [vc_q (o := (2, 0, 1, 0, [])) (by decide +kernel)]; rfl
theorem v_125_36 (xs : Option (List Int32)) (n : Nat) (b : Bool) (d : Nat) (ml : List Value) (t : T) (Q : Option Value → T → Prop) (u : Nat) (r : List Value) : vc xs zH_125 (n + 1) b d 125 36 ml (.ref u :: r) t Q = (vtag u = 2 ∧ vc xs zH_125 n true d 125 39 ml (.int (t.1 u 1) :: r) t Q) := by
  rw [vc_q (o := (24, 0, 2, 1, [])) (by decide +kernel)]; rfl
theorem v_125_39 (xs : Option (List Int32)) (n : Nat) (b : Bool) (d : Nat) (ml : List Value) (t : T) (Q : Option Value → T → Prop) (st : List Value) : vc xs zH_125 (n + 1) b d 125 39 ml st t Q = vgi ml 4 (fun v => vc xs zH_125 n true d 125 41 ml (.int v :: st) t Q) := by
  rw [vc_q (o := (1, 0, 4, 1, [])) (by decide +kernel)]; rfl
theorem v_125_41 (xs : Option (List Int32)) (n : Nat) (b : Bool) (d : Nat) (ml : List Value) (t : T) (Q : Option Value → T → Prop) (w v : Int32) (u : Nat) (r : List Value) : vc xs zH_125 (n + 1) b d 125 41 ml (.int w :: .int v :: .ref u :: r) t Q = (vtag u = 100 ∧ vinb v (vlen u) ∧ vc xs zH_125 n true d 125 42 ml r (tsi t u v.toNatClampNeg w) Q) := by
  rw [vc_q (o := (32, 0, 0, 0, [])) (by decide +kernel)]; rfl
theorem v_125_42 (xs : Option (List Int32)) (n : Nat) (b : Bool) (d : Nat) (ml : List Value) (t : T) (Q : Option Value → T → Prop) (st : List Value) : vc xs zH_125 (n + 1) b d 125 42 ml st t Q = vgi ml 3 (fun v => vc xs zH_125 n true d 125 43 ml (.int v :: st) t Q) := by
  rw [vc_q (o := (1, 0, 3, 0, [])) (by decide +kernel)]; rfl
theorem v_125_43 (xs : Option (List Int32)) (n : Nat) (b : Bool) (d : Nat) (ml : List Value) (t : T) (Q : Option Value → T → Prop) (st : List Value) : vc xs zH_125 (n + 1) b d 125 43 ml st t Q = vga ml 0 (fun v => vc xs zH_125 n true d 125 44 ml (.ref v :: st) t Q) := by
  rw [vc_q (o := (2, 0, 0, 0, [])) (by decide +kernel)]; rfl
theorem v_125_44 (xs : Option (List Int32)) (n : Nat) (b : Bool) (d : Nat) (ml : List Value) (t : T) (Q : Option Value → T → Prop) (st : List Value) : vc xs zH_125 (n + 1) b d 125 44 ml st t Q = vga ml 0 (fun v => vc xs zH_125 n true d 125 45 ml (.ref v :: st) t Q) := by
  rw [vc_q (o := (2, 0, 0, 0, [])) (by decide +kernel)]; rfl
theorem v_125_45 (xs : Option (List Int32)) (n : Nat) (b : Bool) (d : Nat) (ml : List Value) (t : T) (Q : Option Value → T → Prop) (u : Nat) (r : List Value) : vc xs zH_125 (n + 1) b d 125 45 ml (.ref u :: r) t Q = (vtag u = 3 ∧ vc xs zH_125 n true d 125 48 ml (.ref (tref t u 0) :: r) t Q) := by
  rw [vc_q (o := (25, 0, 3, 0, [])) (by decide +kernel)]; rfl
theorem v_125_48 (xs : Option (List Int32)) (n : Nat) (b : Bool) (d : Nat) (ml : List Value) (t : T) (Q : Option Value → T → Prop) (st : List Value) : vc xs zH_125 (n + 1) b d 125 48 ml st t Q = vga ml 1 (fun v => vc xs zH_125 n true d 125 49 ml (.ref v :: st) t Q) := by
  rw [vc_q (o := (2, 0, 1, 0, [])) (by decide +kernel)]; rfl
theorem v_125_49 (xs : Option (List Int32)) (n : Nat) (b : Bool) (d : Nat) (ml : List Value) (t : T) (Q : Option Value → T → Prop) (u : Nat) (r : List Value) : vc xs zH_125 (n + 1) b d 125 49 ml (.ref u :: r) t Q = (vtag u = 2 ∧ vc xs zH_125 n true d 125 52 ml (.int (t.1 u 3) :: r) t Q) := by
  rw [vc_q (o := (24, 0, 2, 3, [])) (by decide +kernel)]; rfl
theorem v_125_52 (xs : Option (List Int32)) (n : Nat) (b : Bool) (d : Nat) (ml : List Value) (t : T) (Q : Option Value → T → Prop) (v : Int32) (u : Nat) (r : List Value) : vc xs zH_125 (n + 1) b d 125 52 ml (.int v :: .ref u :: r) t Q = (103 ≤ vtag u ∧ vtag u < 108 ∧ vinb v (vlen u) ∧ vc xs zH_125 n true d 125 53 ml (.ref (tref t u v.toNatClampNeg) :: r) t Q) := by
  rw [vc_q (o := (31, 0, 0, 0, [])) (by decide +kernel)]; rfl
theorem v_125_53 (xs : Option (List Int32)) (n : Nat) (b : Bool) (d : Nat) (ml : List Value) (t : T) (Q : Option Value → T → Prop) (st : List Value) : vc xs zH_125 (n + 1) b d 125 53 ml st t Q = (st.all zc1 = true ∧ vtk 2 st [] (fun as rest => rest.length ≤ 8 ∧ vrc as 3 (twc d 123 as t (fun r t' => vc xs zH_125 n true d 125 56 ml (r.toList ++ rest) t' Q)))) := by
  rw [vc_q (o := (36, 0, 123, 1, [(0, 3)])) (by decide +kernel)]; rfl
theorem v_125_56 (xs : Option (List Int32)) (n : Nat) (b : Bool) (d : Nat) (ml : List Value) (t : T) (Q : Option Value → T → Prop) (st : List Value) : vc xs zH_125 (n + 1) b d 125 56 ml st t Q = (st.all zc1 = true ∧ vtk 2 st [] (fun as rest => rest.length ≤ 8 ∧ twc d 130 as t (fun r t' => vc xs zH_125 n true d 125 59 ml (r.toList ++ rest) t' Q))) := by
  rw [vc_q (o := (37, 0, 130, 2, [])) (by decide +kernel)]; rfl
theorem v_125_59 (xs : Option (List Int32)) (n : Nat) (b : Bool) (d : Nat) (ml : List Value) (t : T) (Q : Option Value → T → Prop) (v : Int32) (r : List Value) : vc xs zH_125 (n + 1) b d 125 59 ml (.int v :: r) t Q = vset ml 3 (.int v) (fun l => vc xs zH_125 n true d 125 60 l r t Q) := by
  rw [vc_q (o := (3, 0, 3, 0, [])) (by decide +kernel)]; rfl
theorem v_125_60 (xs : Option (List Int32)) (n : Nat) (b : Bool) (d : Nat) (ml : List Value) (t : T) (Q : Option Value → T → Prop) (st : List Value) : vc xs zH_125 (n + 1) b d 125 60 ml st t Q = vgi ml 4 (fun v => vset ml 4 (.int (v + 1)) (fun l => vc xs zH_125 n true d 125 63 l st t Q)) := by
  rw [vc_q (o := (5, 1, 4, 0, [])) (by decide +kernel)]; rfl
theorem v_125_63 (xs : Option (List Int32)) (n : Nat) (b : Bool) (d : Nat) (ml : List Value) (t : T) (Q : Option Value → T → Prop) (st : List Value) : vc xs zH_125 (n + 1) b d 125 63 ml st t Q = vc xs zH_125 n true d 125 15 ml st t Q := by
  rw [vc_q (o := (22, 0, 15, 0, [])) (by decide +kernel)]; rfl
theorem v_125_66 (xs : Option (List Int32)) (n : Nat) (b : Bool) (d : Nat) (ml : List Value) (t : T) (Q : Option Value → T → Prop) (st : List Value) : vc xs zH_125 (n + 1) b d 125 66 ml st t Q = vga ml 0 (fun v => vc xs zH_125 n true d 125 67 ml (.ref v :: st) t Q) := by
  rw [vc_q (o := (2, 0, 0, 0, [])) (by decide +kernel)]; rfl
theorem v_125_67 (xs : Option (List Int32)) (n : Nat) (b : Bool) (d : Nat) (ml : List Value) (t : T) (Q : Option Value → T → Prop) (u : Nat) (r : List Value) : vc xs zH_125 (n + 1) b d 125 67 ml (.ref u :: r) t Q = (vtag u = 3 ∧ vc xs zH_125 n true d 125 70 ml (.ref (tref t u 1) :: r) t Q) := by
  rw [vc_q (o := (25, 0, 3, 1, [])) (by decide +kernel)]; rfl
theorem v_125_70 (xs : Option (List Int32)) (n : Nat) (b : Bool) (d : Nat) (ml : List Value) (t : T) (Q : Option Value → T → Prop) (st : List Value) : vc xs zH_125 (n + 1) b d 125 70 ml st t Q = vga ml 1 (fun v => vc xs zH_125 n true d 125 71 ml (.ref v :: st) t Q) := by
  rw [vc_q (o := (2, 0, 1, 0, [])) (by decide +kernel)]; rfl
theorem v_125_71 (xs : Option (List Int32)) (n : Nat) (b : Bool) (d : Nat) (ml : List Value) (t : T) (Q : Option Value → T → Prop) (u : Nat) (r : List Value) : vc xs zH_125 (n + 1) b d 125 71 ml (.ref u :: r) t Q = (vtag u = 2 ∧ vc xs zH_125 n true d 125 74 ml (.int (t.1 u 1) :: r) t Q) := by
  rw [vc_q (o := (24, 0, 2, 1, [])) (by decide +kernel)]; rfl
theorem v_125_74 (xs : Option (List Int32)) (n : Nat) (b : Bool) (d : Nat) (ml : List Value) (t : T) (Q : Option Value → T → Prop) (st : List Value) : vc xs zH_125 (n + 1) b d 125 74 ml st t Q = vgi ml 2 (fun v => vc xs zH_125 n true d 125 75 ml (.int v :: st) t Q) := by
  rw [vc_q (o := (1, 0, 2, 0, [])) (by decide +kernel)]; rfl
theorem v_125_75 (xs : Option (List Int32)) (n : Nat) (b : Bool) (d : Nat) (ml : List Value) (t : T) (Q : Option Value → T → Prop) (w v : Int32) (u : Nat) (r : List Value) : vc xs zH_125 (n + 1) b d 125 75 ml (.int w :: .int v :: .ref u :: r) t Q = (vtag u = 100 ∧ vinb v (vlen u) ∧ vc xs zH_125 n true d 125 76 ml r (tsi t u v.toNatClampNeg w) Q) := by
  rw [vc_q (o := (32, 0, 0, 0, [])) (by decide +kernel)]; rfl
theorem v_125_76 (xs : Option (List Int32)) (n : Nat) (b : Bool) (d : Nat) (ml : List Value) (t : T) (Q : Option Value → T → Prop) (st : List Value) : vc xs zH_125 (n + 1) b d 125 76 ml st t Q = vgi ml 3 (fun v => vc xs zH_125 n true d 125 77 ml (.int v :: st) t Q) := by
  rw [vc_q (o := (1, 0, 3, 0, [])) (by decide +kernel)]; rfl
theorem v_125_77 (xs : Option (List Int32)) (n : Nat) (b : Bool) (d : Nat) (ml : List Value) (t : T) (Q : Option Value → T → Prop) (v : Int32) : vc xs zH_125 (n + 1) b d 125 77 ml [.int v] t Q = Q (some (.int v)) t := by
  rw [vc_q (o := (40, 0, 0, 0, [])) (by decide +kernel)]; rfl
def zH_126 : List Nat := [53]
theorem v_126_0 (xs : Option (List Int32)) (n : Nat) (b : Bool) (d : Nat) (ml : List Value) (t : T) (Q : Option Value → T → Prop) (st : List Value) : vc xs zH_126 (n + 1) b d 126 0 ml st t Q = vga ml 0 (fun v => vc xs zH_126 n true d 126 1 ml (.ref v :: st) t Q) := by
  rw [vc_q (o := (2, 0, 0, 0, [])) (by decide +kernel)]; rfl
theorem v_126_1 (xs : Option (List Int32)) (n : Nat) (b : Bool) (d : Nat) (ml : List Value) (t : T) (Q : Option Value → T → Prop) (u : Nat) (r : List Value) : vc xs zH_126 (n + 1) b d 126 1 ml (.ref u :: r) t Q = (vtag u = 3 ∧ vc xs zH_126 n true d 126 4 ml (.ref (tref t u 1) :: r) t Q) := by
  rw [vc_q (o := (25, 0, 3, 1, [])) (by decide +kernel)]; rfl
theorem v_126_4 (xs : Option (List Int32)) (n : Nat) (b : Bool) (d : Nat) (ml : List Value) (t : T) (Q : Option Value → T → Prop) (st : List Value) : vc xs zH_126 (n + 1) b d 126 4 ml st t Q = vc xs zH_126 n true d 126 5 ml (.int 4 :: st) t Q := by
  rw [vc_q (o := (0, 4, 0, 0, [])) (by decide +kernel)]; rfl
theorem v_126_5 (xs : Option (List Int32)) (n : Nat) (b : Bool) (d : Nat) (ml : List Value) (t : T) (Q : Option Value → T → Prop) (v : Int32) (u : Nat) (r : List Value) : vc xs zH_126 (n + 1) b d 126 5 ml (.int v :: .ref u :: r) t Q = (vtag u = 100 ∧ vinb v (vlen u) ∧ vc xs zH_126 n true d 126 6 ml (.int (t.1 u v.toNatClampNeg) :: r) t Q) := by
  rw [vc_q (o := (29, 0, 0, 0, [])) (by decide +kernel)]; rfl
theorem v_126_6 (xs : Option (List Int32)) (n : Nat) (b : Bool) (d : Nat) (ml : List Value) (t : T) (Q : Option Value → T → Prop) (v : Int32) (r : List Value) : vc xs zH_126 (n + 1) b d 126 6 ml (.int v :: r) t Q = vset ml 2 (.int v) (fun l => vc xs zH_126 n true d 126 7 l r t Q) := by
  rw [vc_q (o := (3, 0, 2, 0, [])) (by decide +kernel)]; rfl
theorem v_126_7 (xs : Option (List Int32)) (n : Nat) (b : Bool) (d : Nat) (ml : List Value) (t : T) (Q : Option Value → T → Prop) (st : List Value) : vc xs zH_126 (n + 1) b d 126 7 ml st t Q = vga ml 0 (fun v => vc xs zH_126 n true d 126 8 ml (.ref v :: st) t Q) := by
  rw [vc_q (o := (2, 0, 0, 0, [])) (by decide +kernel)]; rfl
theorem v_126_8 (xs : Option (List Int32)) (n : Nat) (b : Bool) (d : Nat) (ml : List Value) (t : T) (Q : Option Value → T → Prop) (u : Nat) (r : List Value) : vc xs zH_126 (n + 1) b d 126 8 ml (.ref u :: r) t Q = (vtag u = 3 ∧ vc xs zH_126 n true d 126 11 ml (.ref (tref t u 1) :: r) t Q) := by
  rw [vc_q (o := (25, 0, 3, 1, [])) (by decide +kernel)]; rfl
theorem v_126_11 (xs : Option (List Int32)) (n : Nat) (b : Bool) (d : Nat) (ml : List Value) (t : T) (Q : Option Value → T → Prop) (st : List Value) : vc xs zH_126 (n + 1) b d 126 11 ml st t Q = vc xs zH_126 n true d 126 12 ml (.int 5 :: st) t Q := by
  rw [vc_q (o := (0, 5, 0, 0, [])) (by decide +kernel)]; rfl
theorem v_126_12 (xs : Option (List Int32)) (n : Nat) (b : Bool) (d : Nat) (ml : List Value) (t : T) (Q : Option Value → T → Prop) (v : Int32) (u : Nat) (r : List Value) : vc xs zH_126 (n + 1) b d 126 12 ml (.int v :: .ref u :: r) t Q = (vtag u = 100 ∧ vinb v (vlen u) ∧ vc xs zH_126 n true d 126 13 ml (.int (t.1 u v.toNatClampNeg) :: r) t Q) := by
  rw [vc_q (o := (29, 0, 0, 0, [])) (by decide +kernel)]; rfl
theorem v_126_13 (xs : Option (List Int32)) (n : Nat) (b : Bool) (d : Nat) (ml : List Value) (t : T) (Q : Option Value → T → Prop) (v : Int32) (r : List Value) : vc xs zH_126 (n + 1) b d 126 13 ml (.int v :: r) t Q = vset ml 3 (.int v) (fun l => vc xs zH_126 n true d 126 14 l r t Q) := by
  rw [vc_q (o := (3, 0, 3, 0, [])) (by decide +kernel)]; rfl
theorem v_126_14 (xs : Option (List Int32)) (n : Nat) (b : Bool) (d : Nat) (ml : List Value) (t : T) (Q : Option Value → T → Prop) (st : List Value) : vc xs zH_126 (n + 1) b d 126 14 ml st t Q = vga ml 0 (fun v => vc xs zH_126 n true d 126 15 ml (.ref v :: st) t Q) := by
  rw [vc_q (o := (2, 0, 0, 0, [])) (by decide +kernel)]; rfl
theorem v_126_15 (xs : Option (List Int32)) (n : Nat) (b : Bool) (d : Nat) (ml : List Value) (t : T) (Q : Option Value → T → Prop) (u : Nat) (r : List Value) : vc xs zH_126 (n + 1) b d 126 15 ml (.ref u :: r) t Q = (vtag u = 3 ∧ vc xs zH_126 n true d 126 18 ml (.ref (tref t u 1) :: r) t Q) := by
  rw [vc_q (o := (25, 0, 3, 1, [])) (by decide +kernel)]; rfl
theorem v_126_18 (xs : Option (List Int32)) (n : Nat) (b : Bool) (d : Nat) (ml : List Value) (t : T) (Q : Option Value → T → Prop) (st : List Value) : vc xs zH_126 (n + 1) b d 126 18 ml st t Q = vga ml 1 (fun v => vc xs zH_126 n true d 126 19 ml (.ref v :: st) t Q) := by
  rw [vc_q (o := (2, 0, 1, 0, [])) (by decide +kernel)]; rfl
theorem v_126_19 (xs : Option (List Int32)) (n : Nat) (b : Bool) (d : Nat) (ml : List Value) (t : T) (Q : Option Value → T → Prop) (u : Nat) (r : List Value) : vc xs zH_126 (n + 1) b d 126 19 ml (.ref u :: r) t Q = (vtag u = 2 ∧ vc xs zH_126 n true d 126 22 ml (.int (t.1 u 1) :: r) t Q) := by
  rw [vc_q (o := (24, 0, 2, 1, [])) (by decide +kernel)]; rfl
theorem v_126_22 (xs : Option (List Int32)) (n : Nat) (b : Bool) (d : Nat) (ml : List Value) (t : T) (Q : Option Value → T → Prop) (v : Int32) (u : Nat) (r : List Value) : vc xs zH_126 (n + 1) b d 126 22 ml (.int v :: .ref u :: r) t Q = (vtag u = 100 ∧ vinb v (vlen u) ∧ vc xs zH_126 n true d 126 23 ml (.int (t.1 u v.toNatClampNeg) :: r) t Q) := by
  rw [vc_q (o := (29, 0, 0, 0, [])) (by decide +kernel)]; rfl
theorem v_126_23 (xs : Option (List Int32)) (n : Nat) (b : Bool) (d : Nat) (ml : List Value) (t : T) (Q : Option Value → T → Prop) (v : Int32) (r : List Value) : vc xs zH_126 (n + 1) b d 126 23 ml (.int v :: r) t Q = vset ml 4 (.int v) (fun l => vc xs zH_126 n true d 126 25 l r t Q) := by
  rw [vc_q (o := (3, 0, 4, 1, [])) (by decide +kernel)]; rfl
theorem v_126_25 (xs : Option (List Int32)) (n : Nat) (b : Bool) (d : Nat) (ml : List Value) (t : T) (Q : Option Value → T → Prop) (st : List Value) : vc xs zH_126 (n + 1) b d 126 25 ml st t Q = vga ml 0 (fun v => vc xs zH_126 n true d 126 26 ml (.ref v :: st) t Q) := by
  rw [vc_q (o := (2, 0, 0, 0, [])) (by decide +kernel)]; rfl
theorem v_126_26 (xs : Option (List Int32)) (n : Nat) (b : Bool) (d : Nat) (ml : List Value) (t : T) (Q : Option Value → T → Prop) (u : Nat) (r : List Value) : vc xs zH_126 (n + 1) b d 126 26 ml (.ref u :: r) t Q = (vtag u = 3 ∧ vc xs zH_126 n true d 126 29 ml (.ref (tref t u 1) :: r) t Q) := by
  rw [vc_q (o := (25, 0, 3, 1, [])) (by decide +kernel)]; rfl
theorem v_126_29 (xs : Option (List Int32)) (n : Nat) (b : Bool) (d : Nat) (ml : List Value) (t : T) (Q : Option Value → T → Prop) (st : List Value) : vc xs zH_126 (n + 1) b d 126 29 ml st t Q = vga ml 1 (fun v => vc xs zH_126 n true d 126 30 ml (.ref v :: st) t Q) := by
  rw [vc_q (o := (2, 0, 1, 0, [])) (by decide +kernel)]; rfl
theorem v_126_30 (xs : Option (List Int32)) (n : Nat) (b : Bool) (d : Nat) (ml : List Value) (t : T) (Q : Option Value → T → Prop) (u : Nat) (r : List Value) : vc xs zH_126 (n + 1) b d 126 30 ml (.ref u :: r) t Q = (vtag u = 2 ∧ vc xs zH_126 n true d 126 33 ml (.int (t.1 u 2) :: r) t Q) := by
  rw [vc_q (o := (24, 0, 2, 2, [])) (by decide +kernel)]; rfl
theorem v_126_33 (xs : Option (List Int32)) (n : Nat) (b : Bool) (d : Nat) (ml : List Value) (t : T) (Q : Option Value → T → Prop) (v : Int32) (u : Nat) (r : List Value) : vc xs zH_126 (n + 1) b d 126 33 ml (.int v :: .ref u :: r) t Q = (vtag u = 100 ∧ vinb v (vlen u) ∧ vc xs zH_126 n true d 126 34 ml (.int (t.1 u v.toNatClampNeg) :: r) t Q) := by
  rw [vc_q (o := (29, 0, 0, 0, [])) (by decide +kernel)]; rfl
theorem v_126_34 (xs : Option (List Int32)) (n : Nat) (b : Bool) (d : Nat) (ml : List Value) (t : T) (Q : Option Value → T → Prop) (v : Int32) (r : List Value) : vc xs zH_126 (n + 1) b d 126 34 ml (.int v :: r) t Q = vset ml 5 (.int v) (fun l => vc xs zH_126 n true d 126 36 l r t Q) := by
  rw [vc_q (o := (3, 0, 5, 1, [])) (by decide +kernel)]; rfl
theorem v_126_36 (xs : Option (List Int32)) (n : Nat) (b : Bool) (d : Nat) (ml : List Value) (t : T) (Q : Option Value → T → Prop) (st : List Value) : vc xs zH_126 (n + 1) b d 126 36 ml st t Q = vga ml 0 (fun v => vc xs zH_126 n true d 126 37 ml (.ref v :: st) t Q) := by
  rw [vc_q (o := (2, 0, 0, 0, [])) (by decide +kernel)]; rfl
theorem v_126_37 (xs : Option (List Int32)) (n : Nat) (b : Bool) (d : Nat) (ml : List Value) (t : T) (Q : Option Value → T → Prop) (u : Nat) (r : List Value) : vc xs zH_126 (n + 1) b d 126 37 ml (.ref u :: r) t Q = (vtag u = 3 ∧ vc xs zH_126 n true d 126 40 ml (.ref (tref t u 2) :: r) t Q) := by
  rw [vc_q (o := (25, 0, 3, 2, [])) (by decide +kernel)]; rfl
theorem v_126_40 (xs : Option (List Int32)) (n : Nat) (b : Bool) (d : Nat) (ml : List Value) (t : T) (Q : Option Value → T → Prop) (st : List Value) : vc xs zH_126 (n + 1) b d 126 40 ml st t Q = vc xs zH_126 n true d 126 41 ml (.int 0 :: st) t Q := by
  rw [vc_q (o := (0, 0, 0, 0, [])) (by decide +kernel)]; rfl
theorem v_126_41 (xs : Option (List Int32)) (n : Nat) (b : Bool) (d : Nat) (ml : List Value) (t : T) (Q : Option Value → T → Prop) (st : List Value) : vc xs zH_126 (n + 1) b d 126 41 ml st t Q = (st.all zc1 = true ∧ vtk 2 st [] (fun as rest => rest.length ≤ 8 ∧ twc d 172 as t (fun r t' => vc xs zH_126 n true d 126 44 ml (r.toList ++ rest) t' Q))) := by
  rw [vc_q (o := (37, 0, 172, 2, [])) (by decide +kernel)]; rfl
theorem v_126_44 (xs : Option (List Int32)) (n : Nat) (b : Bool) (d : Nat) (ml : List Value) (t : T) (Q : Option Value → T → Prop) (st : List Value) : vc xs zH_126 (n + 1) b d 126 44 ml st t Q = vc xs zH_126 n true d 126 45 ml (.int 0 :: st) t Q := by
  rw [vc_q (o := (0, 0, 0, 0, [])) (by decide +kernel)]; rfl
theorem v_126_45 (xs : Option (List Int32)) (n : Nat) (b : Bool) (d : Nat) (ml : List Value) (t : T) (Q : Option Value → T → Prop) (v : Int32) (r : List Value) : vc xs zH_126 (n + 1) b d 126 45 ml (.int v :: r) t Q = vset ml 6 (.int v) (fun l => vc xs zH_126 n true d 126 47 l r t Q) := by
  rw [vc_q (o := (3, 0, 6, 1, [])) (by decide +kernel)]; rfl
theorem v_126_47 (xs : Option (List Int32)) (n : Nat) (b : Bool) (d : Nat) (ml : List Value) (t : T) (Q : Option Value → T → Prop) (st : List Value) : vc xs zH_126 (n + 1) b d 126 47 ml st t Q = vc xs zH_126 n true d 126 48 ml (.int 1 :: st) t Q := by
  rw [vc_q (o := (0, 1, 0, 0, [])) (by decide +kernel)]; rfl
theorem v_126_48 (xs : Option (List Int32)) (n : Nat) (b : Bool) (d : Nat) (ml : List Value) (t : T) (Q : Option Value → T → Prop) (v : Int32) (r : List Value) : vc xs zH_126 (n + 1) b d 126 48 ml (.int v :: r) t Q = vset ml 7 (.int v) (fun l => vc xs zH_126 n true d 126 50 l r t Q) := by
  rw [vc_q (o := (3, 0, 7, 1, [])) (by decide +kernel)]; rfl
theorem v_126_50 (xs : Option (List Int32)) (n : Nat) (b : Bool) (d : Nat) (ml : List Value) (t : T) (Q : Option Value → T → Prop) (st : List Value) : vc xs zH_126 (n + 1) b d 126 50 ml st t Q = vc xs zH_126 n true d 126 51 ml (.int 0 :: st) t Q := by
  rw [vc_q (o := (0, 0, 0, 0, [])) (by decide +kernel)]; rfl
theorem v_126_51 (xs : Option (List Int32)) (n : Nat) (b : Bool) (d : Nat) (ml : List Value) (t : T) (Q : Option Value → T → Prop) (v : Int32) (r : List Value) : vc xs zH_126 (n + 1) b d 126 51 ml (.int v :: r) t Q = vset ml 8 (.int v) (fun l => vc xs zH_126 n true d 126 53 l r t Q) := by
  rw [vc_q (o := (3, 0, 8, 1, [])) (by decide +kernel)]; rfl
theorem v_126_53 (xs : Option (List Int32)) (n : Nat) (d : Nat) (ml : List Value) (t : T) (Q : Option Value → T → Prop) (st : List Value) : vc xs zH_126 (n + 1) false d 126 53 ml st t Q = vgi ml 8 (fun v => vc xs zH_126 n true d 126 55 ml (.int v :: st) t Q) := by
  rw [vc_q (o := (1, 0, 8, 1, [])) (by decide +kernel)]; rfl
theorem h_126_53 (xs : Option (List Int32)) (n d : Nat) (ml st : List Value) (t : T) (Q : Option Value → T → Prop) : vc xs zH_126 (n + 1) true d 126 53 ml st t Q = twp xs d 126 53 ml st t Q := id rfl
theorem v_126_55 (xs : Option (List Int32)) (n : Nat) (b : Bool) (d : Nat) (ml : List Value) (t : T) (Q : Option Value → T → Prop) (st : List Value) : vc xs zH_126 (n + 1) b d 126 55 ml st t Q = vga ml 0 (fun v => vc xs zH_126 n true d 126 56 ml (.ref v :: st) t Q) := by
  rw [vc_q (o := (2, 0, 0, 0, [])) (by decide +kernel)]; rfl
theorem v_126_56 (xs : Option (List Int32)) (n : Nat) (b : Bool) (d : Nat) (ml : List Value) (t : T) (Q : Option Value → T → Prop) (u : Nat) (r : List Value) : vc xs zH_126 (n + 1) b d 126 56 ml (.ref u :: r) t Q = (vtag u = 3 ∧ vc xs zH_126 n true d 126 59 ml (.ref (tref t u 3) :: r) t Q) := by
  rw [vc_q (o := (25, 0, 3, 3, [])) (by decide +kernel)]; rfl
theorem v_126_59 (xs : Option (List Int32)) (n : Nat) (b : Bool) (d : Nat) (ml : List Value) (t : T) (Q : Option Value → T → Prop) (u : Nat) (r : List Value) : vc xs zH_126 (n + 1) b d 126 59 ml (.ref u :: r) t Q = (vtag u = 4 ∧ vc xs zH_126 n true d 126 62 ml (.int (t.1 u 0) :: r) t Q) := by
  rw [vc_q (o := (24, 0, 4, 0, [])) (by decide +kernel)]; rfl
theorem v_126_62 (xs : Option (List Int32)) (n : Nat) (b : Bool) (d : Nat) (ml : List Value) (t : T) (Q : Option Value → T → Prop) (u v : Int32) (r : List Value) : vc xs zH_126 (n + 1) b d 126 62 ml (.int v :: .int u :: r) t Q = (if u < v then vc xs zH_126 n true d 126 65 ml r t Q else vc xs zH_126 n true d 126 143 ml r t Q) := by
  rw [vc_q (o := (20, 0, 143, 3, [])) (by decide +kernel)]; rfl
theorem v_126_65 (xs : Option (List Int32)) (n : Nat) (b : Bool) (d : Nat) (ml : List Value) (t : T) (Q : Option Value → T → Prop) (st : List Value) : vc xs zH_126 (n + 1) b d 126 65 ml st t Q = vgi ml 4 (fun v => vc xs zH_126 n true d 126 67 ml (.int v :: st) t Q) := by
  rw [vc_q (o := (1, 0, 4, 1, [])) (by decide +kernel)]; rfl
theorem v_126_67 (xs : Option (List Int32)) (n : Nat) (b : Bool) (d : Nat) (ml : List Value) (t : T) (Q : Option Value → T → Prop) (u : Int32) (r : List Value) : vc xs zH_126 (n + 1) b d 126 67 ml (.int u :: r) t Q = (if u < 0 then vc xs zH_126 n true d 126 143 ml r t Q else vc xs zH_126 n true d 126 70 ml r t Q) := by
  rw [vc_q (o := (21, 0, 143, 2, [])) (by decide +kernel)]; rfl
theorem v_126_70 (xs : Option (List Int32)) (n : Nat) (b : Bool) (d : Nat) (ml : List Value) (t : T) (Q : Option Value → T → Prop) (st : List Value) : vc xs zH_126 (n + 1) b d 126 70 ml st t Q = vgi ml 6 (fun v => vc xs zH_126 n true d 126 72 ml (.int v :: st) t Q) := by
  rw [vc_q (o := (1, 0, 6, 1, [])) (by decide +kernel)]; rfl
theorem v_126_72 (xs : Option (List Int32)) (n : Nat) (b : Bool) (d : Nat) (ml : List Value) (t : T) (Q : Option Value → T → Prop) (st : List Value) : vc xs zH_126 (n + 1) b d 126 72 ml st t Q = vc xs zH_126 n true d 126 73 ml (.int 1 :: st) t Q := by
  rw [vc_q (o := (0, 1, 0, 0, [])) (by decide +kernel)]; rfl
theorem v_126_73 (xs : Option (List Int32)) (n : Nat) (b : Bool) (d : Nat) (ml : List Value) (t : T) (Q : Option Value → T → Prop) (st : List Value) : vc xs zH_126 (n + 1) b d 126 73 ml st t Q = vgi ml 4 (fun v => vc xs zH_126 n true d 126 75 ml (.int v :: st) t Q) := by
  rw [vc_q (o := (1, 0, 4, 1, [])) (by decide +kernel)]; rfl
theorem v_126_75 (xs : Option (List Int32)) (n : Nat) (b : Bool) (d : Nat) (ml : List Value) (t : T) (Q : Option Value → T → Prop) (u v : Int32) (r : List Value) : vc xs zH_126 (n + 1) b d 126 75 ml (.int v :: .int u :: r) t Q = vc xs zH_126 n true d 126 76 ml (.int (u <<< (v &&& 31)) :: r) t Q := by
  rw [vc_q (o := (12, 0, 0, 0, [])) (by decide +kernel)]; rfl
theorem v_126_76 (xs : Option (List Int32)) (n : Nat) (b : Bool) (d : Nat) (ml : List Value) (t : T) (Q : Option Value → T → Prop) (u v : Int32) (r : List Value) : vc xs zH_126 (n + 1) b d 126 76 ml (.int v :: .int u :: r) t Q = vc xs zH_126 n true d 126 77 ml (.int (u ||| v) :: r) t Q := by
  rw [vc_q (o := (10, 0, 0, 0, [])) (by decide +kernel)]; rfl
theorem v_126_77 (xs : Option (List Int32)) (n : Nat) (b : Bool) (d : Nat) (ml : List Value) (t : T) (Q : Option Value → T → Prop) (v : Int32) (r : List Value) : vc xs zH_126 (n + 1) b d 126 77 ml (.int v :: r) t Q = vset ml 6 (.int v) (fun l => vc xs zH_126 n true d 126 79 l r t Q) := by
  rw [vc_q (o := (3, 0, 6, 1, [])) (by decide +kernel)]; rfl
theorem v_126_79 (xs : Option (List Int32)) (n : Nat) (b : Bool) (d : Nat) (ml : List Value) (t : T) (Q : Option Value → T → Prop) (st : List Value) : vc xs zH_126 (n + 1) b d 126 79 ml st t Q = vga ml 0 (fun v => vc xs zH_126 n true d 126 80 ml (.ref v :: st) t Q) := by
  rw [vc_q (o := (2, 0, 0, 0, [])) (by decide +kernel)]; rfl
theorem v_126_80 (xs : Option (List Int32)) (n : Nat) (b : Bool) (d : Nat) (ml : List Value) (t : T) (Q : Option Value → T → Prop) (st : List Value) : vc xs zH_126 (n + 1) b d 126 80 ml st t Q = vgi ml 4 (fun v => vc xs zH_126 n true d 126 82 ml (.int v :: st) t Q) := by
  rw [vc_q (o := (1, 0, 4, 1, [])) (by decide +kernel)]; rfl
theorem v_126_82 (xs : Option (List Int32)) (n : Nat) (b : Bool) (d : Nat) (ml : List Value) (t : T) (Q : Option Value → T → Prop) (st : List Value) : vc xs zH_126 (n + 1) b d 126 82 ml st t Q = vgi ml 7 (fun v => vc xs zH_126 n true d 126 84 ml (.int v :: st) t Q) := by
  rw [vc_q (o := (1, 0, 7, 1, [])) (by decide +kernel)]; rfl
theorem v_126_84 (xs : Option (List Int32)) (n : Nat) (b : Bool) (d : Nat) (ml : List Value) (t : T) (Q : Option Value → T → Prop) (st : List Value) : vc xs zH_126 (n + 1) b d 126 84 ml st t Q = vga ml 0 (fun v => vc xs zH_126 n true d 126 85 ml (.ref v :: st) t Q) := by
  rw [vc_q (o := (2, 0, 0, 0, [])) (by decide +kernel)]; rfl
theorem v_126_85 (xs : Option (List Int32)) (n : Nat) (b : Bool) (d : Nat) (ml : List Value) (t : T) (Q : Option Value → T → Prop) (u : Nat) (r : List Value) : vc xs zH_126 (n + 1) b d 126 85 ml (.ref u :: r) t Q = (vtag u = 3 ∧ vc xs zH_126 n true d 126 88 ml (.ref (tref t u 0) :: r) t Q) := by
  rw [vc_q (o := (25, 0, 3, 0, [])) (by decide +kernel)]; rfl
theorem v_126_88 (xs : Option (List Int32)) (n : Nat) (b : Bool) (d : Nat) (ml : List Value) (t : T) (Q : Option Value → T → Prop) (st : List Value) : vc xs zH_126 (n + 1) b d 126 88 ml st t Q = vga ml 1 (fun v => vc xs zH_126 n true d 126 89 ml (.ref v :: st) t Q) := by
  rw [vc_q (o := (2, 0, 1, 0, [])) (by decide +kernel)]; rfl
theorem v_126_89 (xs : Option (List Int32)) (n : Nat) (b : Bool) (d : Nat) (ml : List Value) (t : T) (Q : Option Value → T → Prop) (u : Nat) (r : List Value) : vc xs zH_126 (n + 1) b d 126 89 ml (.ref u :: r) t Q = (vtag u = 2 ∧ vc xs zH_126 n true d 126 92 ml (.int (t.1 u 3) :: r) t Q) := by
  rw [vc_q (o := (24, 0, 2, 3, [])) (by decide +kernel)]; rfl
theorem v_126_92 (xs : Option (List Int32)) (n : Nat) (b : Bool) (d : Nat) (ml : List Value) (t : T) (Q : Option Value → T → Prop) (v : Int32) (u : Nat) (r : List Value) : vc xs zH_126 (n + 1) b d 126 92 ml (.int v :: .ref u :: r) t Q = (103 ≤ vtag u ∧ vtag u < 108 ∧ vinb v (vlen u) ∧ vc xs zH_126 n true d 126 93 ml (.ref (tref t u v.toNatClampNeg) :: r) t Q) := by
  rw [vc_q (o := (31, 0, 0, 0, [])) (by decide +kernel)]; rfl
theorem v_126_93 (xs : Option (List Int32)) (n : Nat) (b : Bool) (d : Nat) (ml : List Value) (t : T) (Q : Option Value → T → Prop) (st : List Value) : vc xs zH_126 (n + 1) b d 126 93 ml st t Q = (st.all zc1 = true ∧ vtk 4 st [] (fun as rest => rest.length ≤ 8 ∧ vrc as 3 (twc d 127 as t (fun r t' => vc xs zH_126 n true d 126 96 ml (r.toList ++ rest) t' Q)))) := by
  rw [vc_q (o := (36, 0, 127, 3, [(0, 3)])) (by decide +kernel)]; rfl
theorem v_126_96 (xs : Option (List Int32)) (n : Nat) (b : Bool) (d : Nat) (ml : List Value) (t : T) (Q : Option Value → T → Prop) (st : List Value) : vc xs zH_126 (n + 1) b d 126 96 ml st t Q = vga ml 0 (fun v => vc xs zH_126 n true d 126 97 ml (.ref v :: st) t Q) := by
  rw [vc_q (o := (2, 0, 0, 0, [])) (by decide +kernel)]; rfl
theorem v_126_97 (xs : Option (List Int32)) (n : Nat) (b : Bool) (d : Nat) (ml : List Value) (t : T) (Q : Option Value → T → Prop) (u : Nat) (r : List Value) : vc xs zH_126 (n + 1) b d 126 97 ml (.ref u :: r) t Q = (vtag u = 3 ∧ vc xs zH_126 n true d 126 100 ml (.ref (tref t u 2) :: r) t Q) := by
  rw [vc_q (o := (25, 0, 3, 2, [])) (by decide +kernel)]; rfl
theorem v_126_100 (xs : Option (List Int32)) (n : Nat) (b : Bool) (d : Nat) (ml : List Value) (t : T) (Q : Option Value → T → Prop) (st : List Value) : vc xs zH_126 (n + 1) b d 126 100 ml st t Q = vgi ml 5 (fun v => vc xs zH_126 n true d 126 102 ml (.int v :: st) t Q) := by
  rw [vc_q (o := (1, 0, 5, 1, [])) (by decide +kernel)]; rfl
theorem v_126_102 (xs : Option (List Int32)) (n : Nat) (b : Bool) (d : Nat) (ml : List Value) (t : T) (Q : Option Value → T → Prop) (v : Int32) (u : Nat) (r : List Value) : vc xs zH_126 (n + 1) b d 126 102 ml (.int v :: .ref u :: r) t Q = (vtag u = 100 ∧ vinb v (vlen u) ∧ vc xs zH_126 n true d 126 103 ml (.int (t.1 u v.toNatClampNeg) :: r) t Q) := by
  rw [vc_q (o := (29, 0, 0, 0, [])) (by decide +kernel)]; rfl
theorem v_126_103 (xs : Option (List Int32)) (n : Nat) (b : Bool) (d : Nat) (ml : List Value) (t : T) (Q : Option Value → T → Prop) (st : List Value) : vc xs zH_126 (n + 1) b d 126 103 ml st t Q = vc xs zH_126 n true d 126 104 ml (.int 1 :: st) t Q := by
  rw [vc_q (o := (0, 1, 0, 0, [])) (by decide +kernel)]; rfl
theorem v_126_104 (xs : Option (List Int32)) (n : Nat) (b : Bool) (d : Nat) (ml : List Value) (t : T) (Q : Option Value → T → Prop) (u v : Int32) (r : List Value) : vc xs zH_126 (n + 1) b d 126 104 ml (.int v :: .int u :: r) t Q = (if u = v then vc xs zH_126 n true d 126 107 ml r t Q else vc xs zH_126 n true d 126 111 ml r t Q) := by
  rw [vc_q (o := (20, 0, 111, 1, [])) (by decide +kernel)]; rfl
theorem v_126_107 (xs : Option (List Int32)) (n : Nat) (b : Bool) (d : Nat) (ml : List Value) (t : T) (Q : Option Value → T → Prop) (st : List Value) : vc xs zH_126 (n + 1) b d 126 107 ml st t Q = vc xs zH_126 n true d 126 108 ml (.int (-1) :: st) t Q := by
  rw [vc_q (o := (0, (-1), 0, 0, [])) (by decide +kernel)]; rfl
theorem v_126_108 (xs : Option (List Int32)) (n : Nat) (b : Bool) (d : Nat) (ml : List Value) (t : T) (Q : Option Value → T → Prop) (st : List Value) : vc xs zH_126 (n + 1) b d 126 108 ml st t Q = vc xs zH_126 n true d 126 117 ml st t Q := by
  rw [vc_q (o := (22, 0, 117, 0, [])) (by decide +kernel)]; rfl
theorem v_126_111 (xs : Option (List Int32)) (n : Nat) (b : Bool) (d : Nat) (ml : List Value) (t : T) (Q : Option Value → T → Prop) (st : List Value) : vc xs zH_126 (n + 1) b d 126 111 ml st t Q = vga ml 0 (fun v => vc xs zH_126 n true d 126 112 ml (.ref v :: st) t Q) := by
  rw [vc_q (o := (2, 0, 0, 0, [])) (by decide +kernel)]; rfl
theorem v_126_112 (xs : Option (List Int32)) (n : Nat) (b : Bool) (d : Nat) (ml : List Value) (t : T) (Q : Option Value → T → Prop) (st : List Value) : vc xs zH_126 (n + 1) b d 126 112 ml st t Q = vgi ml 6 (fun v => vc xs zH_126 n true d 126 114 ml (.int v :: st) t Q) := by
  rw [vc_q (o := (1, 0, 6, 1, [])) (by decide +kernel)]; rfl
theorem v_126_114 (xs : Option (List Int32)) (n : Nat) (b : Bool) (d : Nat) (ml : List Value) (t : T) (Q : Option Value → T → Prop) (st : List Value) : vc xs zH_126 (n + 1) b d 126 114 ml st t Q = (st.all zc1 = true ∧ vtk 2 st [] (fun as rest => rest.length ≤ 8 ∧ vrc as 3 (twc d 128 as t (fun r t' => vc xs zH_126 n true d 126 117 ml (r.toList ++ rest) t' Q)))) := by
  rw [vc_q (o := (36, 0, 128, 1, [(0, 3)])) (by decide +kernel)]; rfl
theorem v_126_117 (xs : Option (List Int32)) (n : Nat) (b : Bool) (d : Nat) (ml : List Value) (t : T) (Q : Option Value → T → Prop) (v : Int32) (r : List Value) : vc xs zH_126 (n + 1) b d 126 117 ml (.int v :: r) t Q = vset ml 4 (.int v) (fun l => vc xs zH_126 n true d 126 119 l r t Q) := by
  rw [vc_q (o := (3, 0, 4, 1, [])) (by decide +kernel)]; rfl
theorem v_126_119 (xs : Option (List Int32)) (n : Nat) (b : Bool) (d : Nat) (ml : List Value) (t : T) (Q : Option Value → T → Prop) (st : List Value) : vc xs zH_126 (n + 1) b d 126 119 ml st t Q = vgi ml 4 (fun v => vc xs zH_126 n true d 126 121 ml (.int v :: st) t Q) := by
  rw [vc_q (o := (1, 0, 4, 1, [])) (by decide +kernel)]; rfl
theorem v_126_121 (xs : Option (List Int32)) (n : Nat) (b : Bool) (d : Nat) (ml : List Value) (t : T) (Q : Option Value → T → Prop) (u : Int32) (r : List Value) : vc xs zH_126 (n + 1) b d 126 121 ml (.int u :: r) t Q = (if u < 0 then vc xs zH_126 n true d 126 124 ml r t Q else vc xs zH_126 n true d 126 128 ml r t Q) := by
  rw [vc_q (o := (21, 0, 128, 3, [])) (by decide +kernel)]; rfl
theorem v_126_124 (xs : Option (List Int32)) (n : Nat) (b : Bool) (d : Nat) (ml : List Value) (t : T) (Q : Option Value → T → Prop) (st : List Value) : vc xs zH_126 (n + 1) b d 126 124 ml st t Q = vc xs zH_126 n true d 126 125 ml (.int 0 :: st) t Q := by
  rw [vc_q (o := (0, 0, 0, 0, [])) (by decide +kernel)]; rfl
theorem v_126_125 (xs : Option (List Int32)) (n : Nat) (b : Bool) (d : Nat) (ml : List Value) (t : T) (Q : Option Value → T → Prop) (st : List Value) : vc xs zH_126 (n + 1) b d 126 125 ml st t Q = vc xs zH_126 n true d 126 135 ml st t Q := by
  rw [vc_q (o := (22, 0, 135, 0, [])) (by decide +kernel)]; rfl
theorem v_126_128 (xs : Option (List Int32)) (n : Nat) (b : Bool) (d : Nat) (ml : List Value) (t : T) (Q : Option Value → T → Prop) (st : List Value) : vc xs zH_126 (n + 1) b d 126 128 ml st t Q = vga ml 0 (fun v => vc xs zH_126 n true d 126 129 ml (.ref v :: st) t Q) := by
  rw [vc_q (o := (2, 0, 0, 0, [])) (by decide +kernel)]; rfl
theorem v_126_129 (xs : Option (List Int32)) (n : Nat) (b : Bool) (d : Nat) (ml : List Value) (t : T) (Q : Option Value → T → Prop) (u : Nat) (r : List Value) : vc xs zH_126 (n + 1) b d 126 129 ml (.ref u :: r) t Q = (vtag u = 3 ∧ vc xs zH_126 n true d 126 132 ml (.ref (tref t u 2) :: r) t Q) := by
  rw [vc_q (o := (25, 0, 3, 2, [])) (by decide +kernel)]; rfl
theorem v_126_132 (xs : Option (List Int32)) (n : Nat) (b : Bool) (d : Nat) (ml : List Value) (t : T) (Q : Option Value → T → Prop) (st : List Value) : vc xs zH_126 (n + 1) b d 126 132 ml st t Q = vgi ml 4 (fun v => vc xs zH_126 n true d 126 134 ml (.int v :: st) t Q) := by
  rw [vc_q (o := (1, 0, 4, 1, [])) (by decide +kernel)]; rfl
theorem v_126_134 (xs : Option (List Int32)) (n : Nat) (b : Bool) (d : Nat) (ml : List Value) (t : T) (Q : Option Value → T → Prop) (v : Int32) (u : Nat) (r : List Value) : vc xs zH_126 (n + 1) b d 126 134 ml (.int v :: .ref u :: r) t Q = (vtag u = 100 ∧ vinb v (vlen u) ∧ vc xs zH_126 n true d 126 135 ml (.int (t.1 u v.toNatClampNeg) :: r) t Q) := by
  rw [vc_q (o := (29, 0, 0, 0, [])) (by decide +kernel)]; rfl
theorem v_126_135 (xs : Option (List Int32)) (n : Nat) (b : Bool) (d : Nat) (ml : List Value) (t : T) (Q : Option Value → T → Prop) (v : Int32) (r : List Value) : vc xs zH_126 (n + 1) b d 126 135 ml (.int v :: r) t Q = vset ml 7 (.int v) (fun l => vc xs zH_126 n true d 126 137 l r t Q) := by
  rw [vc_q (o := (3, 0, 7, 1, [])) (by decide +kernel)]; rfl
theorem v_126_137 (xs : Option (List Int32)) (n : Nat) (b : Bool) (d : Nat) (ml : List Value) (t : T) (Q : Option Value → T → Prop) (st : List Value) : vc xs zH_126 (n + 1) b d 126 137 ml st t Q = vgi ml 8 (fun v => vset ml 8 (.int (v + 1)) (fun l => vc xs zH_126 n true d 126 140 l st t Q)) := by
  rw [vc_q (o := (5, 1, 8, 0, [])) (by decide +kernel)]; rfl
theorem v_126_140 (xs : Option (List Int32)) (n : Nat) (b : Bool) (d : Nat) (ml : List Value) (t : T) (Q : Option Value → T → Prop) (st : List Value) : vc xs zH_126 (n + 1) b d 126 140 ml st t Q = vc xs zH_126 n true d 126 53 ml st t Q := by
  rw [vc_q (o := (22, 0, 53, 0, [])) (by decide +kernel)]; rfl
theorem v_126_143 (xs : Option (List Int32)) (n : Nat) (b : Bool) (d : Nat) (ml : List Value) (t : T) (Q : Option Value → T → Prop) (st : List Value) : vc xs zH_126 (n + 1) b d 126 143 ml st t Q = vga ml 0 (fun v => vc xs zH_126 n true d 126 144 ml (.ref v :: st) t Q) := by
  rw [vc_q (o := (2, 0, 0, 0, [])) (by decide +kernel)]; rfl
theorem v_126_144 (xs : Option (List Int32)) (n : Nat) (b : Bool) (d : Nat) (ml : List Value) (t : T) (Q : Option Value → T → Prop) (u : Nat) (r : List Value) : vc xs zH_126 (n + 1) b d 126 144 ml (.ref u :: r) t Q = (vtag u = 3 ∧ vc xs zH_126 n true d 126 147 ml (.ref (tref t u 1) :: r) t Q) := by
  rw [vc_q (o := (25, 0, 3, 1, [])) (by decide +kernel)]; rfl
theorem v_126_147 (xs : Option (List Int32)) (n : Nat) (b : Bool) (d : Nat) (ml : List Value) (t : T) (Q : Option Value → T → Prop) (st : List Value) : vc xs zH_126 (n + 1) b d 126 147 ml st t Q = vc xs zH_126 n true d 126 148 ml (.int 4 :: st) t Q := by
  rw [vc_q (o := (0, 4, 0, 0, [])) (by decide +kernel)]; rfl
theorem v_126_148 (xs : Option (List Int32)) (n : Nat) (b : Bool) (d : Nat) (ml : List Value) (t : T) (Q : Option Value → T → Prop) (st : List Value) : vc xs zH_126 (n + 1) b d 126 148 ml st t Q = vgi ml 2 (fun v => vc xs zH_126 n true d 126 149 ml (.int v :: st) t Q) := by
  rw [vc_q (o := (1, 0, 2, 0, [])) (by decide +kernel)]; rfl
theorem v_126_149 (xs : Option (List Int32)) (n : Nat) (b : Bool) (d : Nat) (ml : List Value) (t : T) (Q : Option Value → T → Prop) (w v : Int32) (u : Nat) (r : List Value) : vc xs zH_126 (n + 1) b d 126 149 ml (.int w :: .int v :: .ref u :: r) t Q = (vtag u = 100 ∧ vinb v (vlen u) ∧ vc xs zH_126 n true d 126 150 ml r (tsi t u v.toNatClampNeg w) Q) := by
  rw [vc_q (o := (32, 0, 0, 0, [])) (by decide +kernel)]; rfl
theorem v_126_150 (xs : Option (List Int32)) (n : Nat) (b : Bool) (d : Nat) (ml : List Value) (t : T) (Q : Option Value → T → Prop) (st : List Value) : vc xs zH_126 (n + 1) b d 126 150 ml st t Q = vga ml 0 (fun v => vc xs zH_126 n true d 126 151 ml (.ref v :: st) t Q) := by
  rw [vc_q (o := (2, 0, 0, 0, [])) (by decide +kernel)]; rfl
theorem v_126_151 (xs : Option (List Int32)) (n : Nat) (b : Bool) (d : Nat) (ml : List Value) (t : T) (Q : Option Value → T → Prop) (u : Nat) (r : List Value) : vc xs zH_126 (n + 1) b d 126 151 ml (.ref u :: r) t Q = (vtag u = 3 ∧ vc xs zH_126 n true d 126 154 ml (.ref (tref t u 1) :: r) t Q) := by
  rw [vc_q (o := (25, 0, 3, 1, [])) (by decide +kernel)]; rfl
theorem v_126_154 (xs : Option (List Int32)) (n : Nat) (b : Bool) (d : Nat) (ml : List Value) (t : T) (Q : Option Value → T → Prop) (st : List Value) : vc xs zH_126 (n + 1) b d 126 154 ml st t Q = vc xs zH_126 n true d 126 155 ml (.int 5 :: st) t Q := by
  rw [vc_q (o := (0, 5, 0, 0, [])) (by decide +kernel)]; rfl
theorem v_126_155 (xs : Option (List Int32)) (n : Nat) (b : Bool) (d : Nat) (ml : List Value) (t : T) (Q : Option Value → T → Prop) (st : List Value) : vc xs zH_126 (n + 1) b d 126 155 ml st t Q = vgi ml 3 (fun v => vc xs zH_126 n true d 126 156 ml (.int v :: st) t Q) := by
  rw [vc_q (o := (1, 0, 3, 0, [])) (by decide +kernel)]; rfl
theorem v_126_156 (xs : Option (List Int32)) (n : Nat) (b : Bool) (d : Nat) (ml : List Value) (t : T) (Q : Option Value → T → Prop) (w v : Int32) (u : Nat) (r : List Value) : vc xs zH_126 (n + 1) b d 126 156 ml (.int w :: .int v :: .ref u :: r) t Q = (vtag u = 100 ∧ vinb v (vlen u) ∧ vc xs zH_126 n true d 126 157 ml r (tsi t u v.toNatClampNeg w) Q) := by
  rw [vc_q (o := (32, 0, 0, 0, [])) (by decide +kernel)]; rfl
theorem v_126_157 (xs : Option (List Int32)) (n : Nat) (b : Bool) (d : Nat) (ml : List Value) (t : T) (Q : Option Value → T → Prop) (st : List Value) : vc xs zH_126 (n + 1) b d 126 157 ml st t Q = vga ml 0 (fun v => vc xs zH_126 n true d 126 158 ml (.ref v :: st) t Q) := by
  rw [vc_q (o := (2, 0, 0, 0, [])) (by decide +kernel)]; rfl
theorem v_126_158 (xs : Option (List Int32)) (n : Nat) (b : Bool) (d : Nat) (ml : List Value) (t : T) (Q : Option Value → T → Prop) (u : Nat) (r : List Value) : vc xs zH_126 (n + 1) b d 126 158 ml (.ref u :: r) t Q = (vtag u = 3 ∧ vc xs zH_126 n true d 126 161 ml (.ref (tref t u 2) :: r) t Q) := by
  rw [vc_q (o := (25, 0, 3, 2, [])) (by decide +kernel)]; rfl
theorem v_126_161 (xs : Option (List Int32)) (n : Nat) (b : Bool) (d : Nat) (ml : List Value) (t : T) (Q : Option Value → T → Prop) (st : List Value) : vc xs zH_126 (n + 1) b d 126 161 ml st t Q = vgi ml 5 (fun v => vc xs zH_126 n true d 126 163 ml (.int v :: st) t Q) := by
  rw [vc_q (o := (1, 0, 5, 1, [])) (by decide +kernel)]; rfl
theorem v_126_163 (xs : Option (List Int32)) (n : Nat) (b : Bool) (d : Nat) (ml : List Value) (t : T) (Q : Option Value → T → Prop) (v : Int32) (u : Nat) (r : List Value) : vc xs zH_126 (n + 1) b d 126 163 ml (.int v :: .ref u :: r) t Q = (vtag u = 100 ∧ vinb v (vlen u) ∧ vc xs zH_126 n true d 126 164 ml (.int (t.1 u v.toNatClampNeg) :: r) t Q) := by
  rw [vc_q (o := (29, 0, 0, 0, [])) (by decide +kernel)]; rfl
theorem v_126_164 (xs : Option (List Int32)) (n : Nat) (b : Bool) (d : Nat) (ml : List Value) (t : T) (Q : Option Value → T → Prop) (v : Int32) : vc xs zH_126 (n + 1) b d 126 164 ml [.int v] t Q = Q (some (.int v)) t := by
  rw [vc_q (o := (40, 0, 0, 0, [])) (by decide +kernel)]; rfl
def zH_127 : List Nat := [10]
theorem v_127_0 (xs : Option (List Int32)) (n : Nat) (b : Bool) (d : Nat) (ml : List Value) (t : T) (Q : Option Value → T → Prop) (st : List Value) : vc xs zH_127 (n + 1) b d 127 0 ml st t Q = vga ml 0 (fun v => vc xs zH_127 n true d 127 1 ml (.ref v :: st) t Q) := by
  rw [vc_q (o := (2, 0, 0, 0, [])) (by decide +kernel)]; rfl
theorem v_127_1 (xs : Option (List Int32)) (n : Nat) (b : Bool) (d : Nat) (ml : List Value) (t : T) (Q : Option Value → T → Prop) (u : Nat) (r : List Value) : vc xs zH_127 (n + 1) b d 127 1 ml (.ref u :: r) t Q = (vtag u = 3 ∧ vc xs zH_127 n true d 127 4 ml (.ref (tref t u 1) :: r) t Q) := by
  rw [vc_q (o := (25, 0, 3, 1, [])) (by decide +kernel)]; rfl
theorem v_127_4 (xs : Option (List Int32)) (n : Nat) (b : Bool) (d : Nat) (ml : List Value) (t : T) (Q : Option Value → T → Prop) (st : List Value) : vc xs zH_127 (n + 1) b d 127 4 ml st t Q = vc xs zH_127 n true d 127 5 ml (.int 4 :: st) t Q := by
  rw [vc_q (o := (0, 4, 0, 0, [])) (by decide +kernel)]; rfl
theorem v_127_5 (xs : Option (List Int32)) (n : Nat) (b : Bool) (d : Nat) (ml : List Value) (t : T) (Q : Option Value → T → Prop) (st : List Value) : vc xs zH_127 (n + 1) b d 127 5 ml st t Q = vgi ml 1 (fun v => vc xs zH_127 n true d 127 6 ml (.int v :: st) t Q) := by
  rw [vc_q (o := (1, 0, 1, 0, [])) (by decide +kernel)]; rfl
theorem v_127_6 (xs : Option (List Int32)) (n : Nat) (b : Bool) (d : Nat) (ml : List Value) (t : T) (Q : Option Value → T → Prop) (w v : Int32) (u : Nat) (r : List Value) : vc xs zH_127 (n + 1) b d 127 6 ml (.int w :: .int v :: .ref u :: r) t Q = (vtag u = 100 ∧ vinb v (vlen u) ∧ vc xs zH_127 n true d 127 7 ml r (tsi t u v.toNatClampNeg w) Q) := by
  rw [vc_q (o := (32, 0, 0, 0, [])) (by decide +kernel)]; rfl
theorem v_127_7 (xs : Option (List Int32)) (n : Nat) (b : Bool) (d : Nat) (ml : List Value) (t : T) (Q : Option Value → T → Prop) (st : List Value) : vc xs zH_127 (n + 1) b d 127 7 ml st t Q = vc xs zH_127 n true d 127 8 ml (.int 0 :: st) t Q := by
  rw [vc_q (o := (0, 0, 0, 0, [])) (by decide +kernel)]; rfl
theorem v_127_8 (xs : Option (List Int32)) (n : Nat) (b : Bool) (d : Nat) (ml : List Value) (t : T) (Q : Option Value → T → Prop) (v : Int32) (r : List Value) : vc xs zH_127 (n + 1) b d 127 8 ml (.int v :: r) t Q = vset ml 4 (.int v) (fun l => vc xs zH_127 n true d 127 10 l r t Q) := by
  rw [vc_q (o := (3, 0, 4, 1, [])) (by decide +kernel)]; rfl
theorem v_127_10 (xs : Option (List Int32)) (n : Nat) (d : Nat) (ml : List Value) (t : T) (Q : Option Value → T → Prop) (st : List Value) : vc xs zH_127 (n + 1) false d 127 10 ml st t Q = vgi ml 4 (fun v => vc xs zH_127 n true d 127 12 ml (.int v :: st) t Q) := by
  rw [vc_q (o := (1, 0, 4, 1, [])) (by decide +kernel)]; rfl
theorem h_127_10 (xs : Option (List Int32)) (n d : Nat) (ml st : List Value) (t : T) (Q : Option Value → T → Prop) : vc xs zH_127 (n + 1) true d 127 10 ml st t Q = twp xs d 127 10 ml st t Q := id rfl
theorem v_127_12 (xs : Option (List Int32)) (n : Nat) (b : Bool) (d : Nat) (ml : List Value) (t : T) (Q : Option Value → T → Prop) (st : List Value) : vc xs zH_127 (n + 1) b d 127 12 ml st t Q = vga ml 0 (fun v => vc xs zH_127 n true d 127 13 ml (.ref v :: st) t Q) := by
  rw [vc_q (o := (2, 0, 0, 0, [])) (by decide +kernel)]; rfl
theorem v_127_13 (xs : Option (List Int32)) (n : Nat) (b : Bool) (d : Nat) (ml : List Value) (t : T) (Q : Option Value → T → Prop) (u : Nat) (r : List Value) : vc xs zH_127 (n + 1) b d 127 13 ml (.ref u :: r) t Q = (vtag u = 3 ∧ vc xs zH_127 n true d 127 16 ml (.ref (tref t u 3) :: r) t Q) := by
  rw [vc_q (o := (25, 0, 3, 3, [])) (by decide +kernel)]; rfl
theorem v_127_16 (xs : Option (List Int32)) (n : Nat) (b : Bool) (d : Nat) (ml : List Value) (t : T) (Q : Option Value → T → Prop) (u : Nat) (r : List Value) : vc xs zH_127 (n + 1) b d 127 16 ml (.ref u :: r) t Q = (vtag u = 4 ∧ vc xs zH_127 n true d 127 19 ml (.int (t.1 u 0) :: r) t Q) := by
  rw [vc_q (o := (24, 0, 4, 0, [])) (by decide +kernel)]; rfl
theorem v_127_19 (xs : Option (List Int32)) (n : Nat) (b : Bool) (d : Nat) (ml : List Value) (t : T) (Q : Option Value → T → Prop) (u v : Int32) (r : List Value) : vc xs zH_127 (n + 1) b d 127 19 ml (.int v :: .int u :: r) t Q = (if u < v then vc xs zH_127 n true d 127 22 ml r t Q else vc xs zH_127 n true d 127 84 ml r t Q) := by
  rw [vc_q (o := (20, 0, 84, 3, [])) (by decide +kernel)]; rfl
theorem v_127_22 (xs : Option (List Int32)) (n : Nat) (b : Bool) (d : Nat) (ml : List Value) (t : T) (Q : Option Value → T → Prop) (st : List Value) : vc xs zH_127 (n + 1) b d 127 22 ml st t Q = vga ml 0 (fun v => vc xs zH_127 n true d 127 23 ml (.ref v :: st) t Q) := by
  rw [vc_q (o := (2, 0, 0, 0, [])) (by decide +kernel)]; rfl
theorem v_127_23 (xs : Option (List Int32)) (n : Nat) (b : Bool) (d : Nat) (ml : List Value) (t : T) (Q : Option Value → T → Prop) (u : Nat) (r : List Value) : vc xs zH_127 (n + 1) b d 127 23 ml (.ref u :: r) t Q = (vtag u = 3 ∧ vc xs zH_127 n true d 127 26 ml (.ref (tref t u 2) :: r) t Q) := by
  rw [vc_q (o := (25, 0, 3, 2, [])) (by decide +kernel)]; rfl
theorem v_127_26 (xs : Option (List Int32)) (n : Nat) (b : Bool) (d : Nat) (ml : List Value) (t : T) (Q : Option Value → T → Prop) (st : List Value) : vc xs zH_127 (n + 1) b d 127 26 ml st t Q = vgi ml 4 (fun v => vc xs zH_127 n true d 127 28 ml (.int v :: st) t Q) := by
  rw [vc_q (o := (1, 0, 4, 1, [])) (by decide +kernel)]; rfl
theorem v_127_28 (xs : Option (List Int32)) (n : Nat) (b : Bool) (d : Nat) (ml : List Value) (t : T) (Q : Option Value → T → Prop) (v : Int32) (u : Nat) (r : List Value) : vc xs zH_127 (n + 1) b d 127 28 ml (.int v :: .ref u :: r) t Q = (vtag u = 100 ∧ vinb v (vlen u) ∧ vc xs zH_127 n true d 127 29 ml (.int (t.1 u v.toNatClampNeg) :: r) t Q) := by
  rw [vc_q (o := (29, 0, 0, 0, [])) (by decide +kernel)]; rfl
theorem v_127_29 (xs : Option (List Int32)) (n : Nat) (b : Bool) (d : Nat) (ml : List Value) (t : T) (Q : Option Value → T → Prop) (st : List Value) : vc xs zH_127 (n + 1) b d 127 29 ml st t Q = vc xs zH_127 n true d 127 30 ml (.int 1 :: st) t Q := by
  rw [vc_q (o := (0, 1, 0, 0, [])) (by decide +kernel)]; rfl
theorem v_127_30 (xs : Option (List Int32)) (n : Nat) (b : Bool) (d : Nat) (ml : List Value) (t : T) (Q : Option Value → T → Prop) (u v : Int32) (r : List Value) : vc xs zH_127 (n + 1) b d 127 30 ml (.int v :: .int u :: r) t Q = (if u = v then vc xs zH_127 n true d 127 78 ml r t Q else vc xs zH_127 n true d 127 33 ml r t Q) := by
  rw [vc_q (o := (20, 0, 78, 0, [])) (by decide +kernel)]; rfl
theorem v_127_33 (xs : Option (List Int32)) (n : Nat) (b : Bool) (d : Nat) (ml : List Value) (t : T) (Q : Option Value → T → Prop) (st : List Value) : vc xs zH_127 (n + 1) b d 127 33 ml st t Q = vga ml 0 (fun v => vc xs zH_127 n true d 127 34 ml (.ref v :: st) t Q) := by
  rw [vc_q (o := (2, 0, 0, 0, [])) (by decide +kernel)]; rfl
theorem v_127_34 (xs : Option (List Int32)) (n : Nat) (b : Bool) (d : Nat) (ml : List Value) (t : T) (Q : Option Value → T → Prop) (u : Nat) (r : List Value) : vc xs zH_127 (n + 1) b d 127 34 ml (.ref u :: r) t Q = (vtag u = 3 ∧ vc xs zH_127 n true d 127 37 ml (.ref (tref t u 2) :: r) t Q) := by
  rw [vc_q (o := (25, 0, 3, 2, [])) (by decide +kernel)]; rfl
theorem v_127_37 (xs : Option (List Int32)) (n : Nat) (b : Bool) (d : Nat) (ml : List Value) (t : T) (Q : Option Value → T → Prop) (st : List Value) : vc xs zH_127 (n + 1) b d 127 37 ml st t Q = vgi ml 4 (fun v => vc xs zH_127 n true d 127 39 ml (.int v :: st) t Q) := by
  rw [vc_q (o := (1, 0, 4, 1, [])) (by decide +kernel)]; rfl
theorem v_127_39 (xs : Option (List Int32)) (n : Nat) (b : Bool) (d : Nat) (ml : List Value) (t : T) (Q : Option Value → T → Prop) (v : Int32) (u : Nat) (r : List Value) : vc xs zH_127 (n + 1) b d 127 39 ml (.int v :: .ref u :: r) t Q = (vtag u = 100 ∧ vinb v (vlen u) ∧ vc xs zH_127 n true d 127 40 ml (.int (t.1 u v.toNatClampNeg) :: r) t Q) := by
  rw [vc_q (o := (29, 0, 0, 0, [])) (by decide +kernel)]; rfl
theorem v_127_40 (xs : Option (List Int32)) (n : Nat) (b : Bool) (d : Nat) (ml : List Value) (t : T) (Q : Option Value → T → Prop) (st : List Value) : vc xs zH_127 (n + 1) b d 127 40 ml st t Q = vgi ml 2 (fun v => vc xs zH_127 n true d 127 41 ml (.int v :: st) t Q) := by
  rw [vc_q (o := (1, 0, 2, 0, [])) (by decide +kernel)]; rfl
theorem v_127_41 (xs : Option (List Int32)) (n : Nat) (b : Bool) (d : Nat) (ml : List Value) (t : T) (Q : Option Value → T → Prop) (u v : Int32) (r : List Value) : vc xs zH_127 (n + 1) b d 127 41 ml (.int v :: .int u :: r) t Q = (if u = v then vc xs zH_127 n true d 127 78 ml r t Q else vc xs zH_127 n true d 127 44 ml r t Q) := by
  rw [vc_q (o := (20, 0, 78, 0, [])) (by decide +kernel)]; rfl
theorem v_127_44 (xs : Option (List Int32)) (n : Nat) (b : Bool) (d : Nat) (ml : List Value) (t : T) (Q : Option Value → T → Prop) (st : List Value) : vc xs zH_127 (n + 1) b d 127 44 ml st t Q = vga ml 0 (fun v => vc xs zH_127 n true d 127 45 ml (.ref v :: st) t Q) := by
  rw [vc_q (o := (2, 0, 0, 0, [])) (by decide +kernel)]; rfl
theorem v_127_45 (xs : Option (List Int32)) (n : Nat) (b : Bool) (d : Nat) (ml : List Value) (t : T) (Q : Option Value → T → Prop) (u : Nat) (r : List Value) : vc xs zH_127 (n + 1) b d 127 45 ml (.ref u :: r) t Q = (vtag u = 3 ∧ vc xs zH_127 n true d 127 48 ml (.ref (tref t u 1) :: r) t Q) := by
  rw [vc_q (o := (25, 0, 3, 1, [])) (by decide +kernel)]; rfl
theorem v_127_48 (xs : Option (List Int32)) (n : Nat) (b : Bool) (d : Nat) (ml : List Value) (t : T) (Q : Option Value → T → Prop) (st : List Value) : vc xs zH_127 (n + 1) b d 127 48 ml st t Q = vc xs zH_127 n true d 127 49 ml (.int 5 :: st) t Q := by
  rw [vc_q (o := (0, 5, 0, 0, [])) (by decide +kernel)]; rfl
theorem v_127_49 (xs : Option (List Int32)) (n : Nat) (b : Bool) (d : Nat) (ml : List Value) (t : T) (Q : Option Value → T → Prop) (st : List Value) : vc xs zH_127 (n + 1) b d 127 49 ml st t Q = vgi ml 4 (fun v => vc xs zH_127 n true d 127 51 ml (.int v :: st) t Q) := by
  rw [vc_q (o := (1, 0, 4, 1, [])) (by decide +kernel)]; rfl
theorem v_127_51 (xs : Option (List Int32)) (n : Nat) (b : Bool) (d : Nat) (ml : List Value) (t : T) (Q : Option Value → T → Prop) (w v : Int32) (u : Nat) (r : List Value) : vc xs zH_127 (n + 1) b d 127 51 ml (.int w :: .int v :: .ref u :: r) t Q = (vtag u = 100 ∧ vinb v (vlen u) ∧ vc xs zH_127 n true d 127 52 ml r (tsi t u v.toNatClampNeg w) Q) := by
  rw [vc_q (o := (32, 0, 0, 0, [])) (by decide +kernel)]; rfl
theorem v_127_52 (xs : Option (List Int32)) (n : Nat) (b : Bool) (d : Nat) (ml : List Value) (t : T) (Q : Option Value → T → Prop) (st : List Value) : vc xs zH_127 (n + 1) b d 127 52 ml st t Q = vga ml 0 (fun v => vc xs zH_127 n true d 127 53 ml (.ref v :: st) t Q) := by
  rw [vc_q (o := (2, 0, 0, 0, [])) (by decide +kernel)]; rfl
theorem v_127_53 (xs : Option (List Int32)) (n : Nat) (b : Bool) (d : Nat) (ml : List Value) (t : T) (Q : Option Value → T → Prop) (u : Nat) (r : List Value) : vc xs zH_127 (n + 1) b d 127 53 ml (.ref u :: r) t Q = (vtag u = 3 ∧ vc xs zH_127 n true d 127 56 ml (.ref (tref t u 2) :: r) t Q) := by
  rw [vc_q (o := (25, 0, 3, 2, [])) (by decide +kernel)]; rfl
theorem v_127_56 (xs : Option (List Int32)) (n : Nat) (b : Bool) (d : Nat) (ml : List Value) (t : T) (Q : Option Value → T → Prop) (st : List Value) : vc xs zH_127 (n + 1) b d 127 56 ml st t Q = vgi ml 4 (fun v => vc xs zH_127 n true d 127 58 ml (.int v :: st) t Q) := by
  rw [vc_q (o := (1, 0, 4, 1, [])) (by decide +kernel)]; rfl
theorem v_127_58 (xs : Option (List Int32)) (n : Nat) (b : Bool) (d : Nat) (ml : List Value) (t : T) (Q : Option Value → T → Prop) (st : List Value) : vc xs zH_127 (n + 1) b d 127 58 ml st t Q = vga ml 0 (fun v => vc xs zH_127 n true d 127 59 ml (.ref v :: st) t Q) := by
  rw [vc_q (o := (2, 0, 0, 0, [])) (by decide +kernel)]; rfl
theorem v_127_59 (xs : Option (List Int32)) (n : Nat) (b : Bool) (d : Nat) (ml : List Value) (t : T) (Q : Option Value → T → Prop) (u : Nat) (r : List Value) : vc xs zH_127 (n + 1) b d 127 59 ml (.ref u :: r) t Q = (vtag u = 3 ∧ vc xs zH_127 n true d 127 62 ml (.ref (tref t u 2) :: r) t Q) := by
  rw [vc_q (o := (25, 0, 3, 2, [])) (by decide +kernel)]; rfl
theorem v_127_62 (xs : Option (List Int32)) (n : Nat) (b : Bool) (d : Nat) (ml : List Value) (t : T) (Q : Option Value → T → Prop) (st : List Value) : vc xs zH_127 (n + 1) b d 127 62 ml st t Q = vgi ml 4 (fun v => vc xs zH_127 n true d 127 64 ml (.int v :: st) t Q) := by
  rw [vc_q (o := (1, 0, 4, 1, [])) (by decide +kernel)]; rfl
theorem v_127_64 (xs : Option (List Int32)) (n : Nat) (b : Bool) (d : Nat) (ml : List Value) (t : T) (Q : Option Value → T → Prop) (v : Int32) (u : Nat) (r : List Value) : vc xs zH_127 (n + 1) b d 127 64 ml (.int v :: .ref u :: r) t Q = (vtag u = 100 ∧ vinb v (vlen u) ∧ vc xs zH_127 n true d 127 65 ml (.int (t.1 u v.toNatClampNeg) :: r) t Q) := by
  rw [vc_q (o := (29, 0, 0, 0, [])) (by decide +kernel)]; rfl
theorem v_127_65 (xs : Option (List Int32)) (n : Nat) (b : Bool) (d : Nat) (ml : List Value) (t : T) (Q : Option Value → T → Prop) (st : List Value) : vc xs zH_127 (n + 1) b d 127 65 ml st t Q = vgi ml 2 (fun v => vc xs zH_127 n true d 127 66 ml (.int v :: st) t Q) := by
  rw [vc_q (o := (1, 0, 2, 0, [])) (by decide +kernel)]; rfl
theorem v_127_66 (xs : Option (List Int32)) (n : Nat) (b : Bool) (d : Nat) (ml : List Value) (t : T) (Q : Option Value → T → Prop) (st : List Value) : vc xs zH_127 (n + 1) b d 127 66 ml st t Q = vga ml 0 (fun v => vc xs zH_127 n true d 127 67 ml (.ref v :: st) t Q) := by
  rw [vc_q (o := (2, 0, 0, 0, [])) (by decide +kernel)]; rfl
theorem v_127_67 (xs : Option (List Int32)) (n : Nat) (b : Bool) (d : Nat) (ml : List Value) (t : T) (Q : Option Value → T → Prop) (st : List Value) : vc xs zH_127 (n + 1) b d 127 67 ml st t Q = vga ml 3 (fun v => vc xs zH_127 n true d 127 68 ml (.ref v :: st) t Q) := by
  rw [vc_q (o := (2, 0, 3, 0, [])) (by decide +kernel)]; rfl
theorem v_127_68 (xs : Option (List Int32)) (n : Nat) (b : Bool) (d : Nat) (ml : List Value) (t : T) (Q : Option Value → T → Prop) (st : List Value) : vc xs zH_127 (n + 1) b d 127 68 ml st t Q = (st.all zc1 = true ∧ vtk 2 st [] (fun as rest => rest.length ≤ 8 ∧ vrc as 3 (twc d 123 as t (fun r t' => vc xs zH_127 n true d 127 71 ml (r.toList ++ rest) t' Q)))) := by
  rw [vc_q (o := (36, 0, 123, 1, [(0, 3)])) (by decide +kernel)]; rfl
theorem v_127_71 (xs : Option (List Int32)) (n : Nat) (b : Bool) (d : Nat) (ml : List Value) (t : T) (Q : Option Value → T → Prop) (st : List Value) : vc xs zH_127 (n + 1) b d 127 71 ml st t Q = (st.all zc1 = true ∧ vtk 2 st [] (fun as rest => rest.length ≤ 8 ∧ twc d 130 as t (fun r t' => vc xs zH_127 n true d 127 74 ml (r.toList ++ rest) t' Q))) := by
  rw [vc_q (o := (37, 0, 130, 2, [])) (by decide +kernel)]; rfl
theorem v_127_74 (xs : Option (List Int32)) (n : Nat) (b : Bool) (d : Nat) (ml : List Value) (t : T) (Q : Option Value → T → Prop) (st : List Value) : vc xs zH_127 (n + 1) b d 127 74 ml st t Q = (st.all zc1 = true ∧ vtk 2 st [] (fun as rest => rest.length ≤ 8 ∧ twc d 131 as t (fun r t' => vc xs zH_127 n true d 127 77 ml (r.toList ++ rest) t' Q))) := by
  rw [vc_q (o := (37, 0, 131, 2, [])) (by decide +kernel)]; rfl
theorem v_127_77 (xs : Option (List Int32)) (n : Nat) (b : Bool) (d : Nat) (ml : List Value) (t : T) (Q : Option Value → T → Prop) (w v : Int32) (u : Nat) (r : List Value) : vc xs zH_127 (n + 1) b d 127 77 ml (.int w :: .int v :: .ref u :: r) t Q = (vtag u = 100 ∧ vinb v (vlen u) ∧ vc xs zH_127 n true d 127 78 ml r (tsi t u v.toNatClampNeg w) Q) := by
  rw [vc_q (o := (32, 0, 0, 0, [])) (by decide +kernel)]; rfl
theorem v_127_78 (xs : Option (List Int32)) (n : Nat) (b : Bool) (d : Nat) (ml : List Value) (t : T) (Q : Option Value → T → Prop) (st : List Value) : vc xs zH_127 (n + 1) b d 127 78 ml st t Q = vgi ml 4 (fun v => vset ml 4 (.int (v + 1)) (fun l => vc xs zH_127 n true d 127 81 l st t Q)) := by
  rw [vc_q (o := (5, 1, 4, 0, [])) (by decide +kernel)]; rfl
theorem v_127_81 (xs : Option (List Int32)) (n : Nat) (b : Bool) (d : Nat) (ml : List Value) (t : T) (Q : Option Value → T → Prop) (st : List Value) : vc xs zH_127 (n + 1) b d 127 81 ml st t Q = vc xs zH_127 n true d 127 10 ml st t Q := by
  rw [vc_q (o := (22, 0, 10, 0, [])) (by decide +kernel)]; rfl
theorem v_127_84 (xs : Option (List Int32)) (n : Nat) (b : Bool) (d : Nat) (ml : List Value) (t : T) (Q : Option Value → T → Prop)  : vc xs zH_127 (n + 1) b d 127 84 ml [] t Q = Q none t := by
  rw [vc_q (o := (43, 0, 0, 0, [])) (by decide +kernel)]; rfl
def zH_128 : List Nat := [4]
theorem v_128_0 (xs : Option (List Int32)) (n : Nat) (b : Bool) (d : Nat) (ml : List Value) (t : T) (Q : Option Value → T → Prop) (st : List Value) : vc xs zH_128 (n + 1) b d 128 0 ml st t Q = vc xs zH_128 n true d 128 1 ml (.int (-1) :: st) t Q := by
  rw [vc_q (o := (0, (-1), 0, 0, [])) (by decide +kernel)]; rfl
theorem v_128_1 (xs : Option (List Int32)) (n : Nat) (b : Bool) (d : Nat) (ml : List Value) (t : T) (Q : Option Value → T → Prop) (v : Int32) (r : List Value) : vc xs zH_128 (n + 1) b d 128 1 ml (.int v :: r) t Q = vset ml 2 (.int v) (fun l => vc xs zH_128 n true d 128 2 l r t Q) := by
  rw [vc_q (o := (3, 0, 2, 0, [])) (by decide +kernel)]; rfl
theorem v_128_2 (xs : Option (List Int32)) (n : Nat) (b : Bool) (d : Nat) (ml : List Value) (t : T) (Q : Option Value → T → Prop) (st : List Value) : vc xs zH_128 (n + 1) b d 128 2 ml st t Q = vc xs zH_128 n true d 128 3 ml (.int 0 :: st) t Q := by
  rw [vc_q (o := (0, 0, 0, 0, [])) (by decide +kernel)]; rfl
theorem v_128_3 (xs : Option (List Int32)) (n : Nat) (b : Bool) (d : Nat) (ml : List Value) (t : T) (Q : Option Value → T → Prop) (v : Int32) (r : List Value) : vc xs zH_128 (n + 1) b d 128 3 ml (.int v :: r) t Q = vset ml 3 (.int v) (fun l => vc xs zH_128 n true d 128 4 l r t Q) := by
  rw [vc_q (o := (3, 0, 3, 0, [])) (by decide +kernel)]; rfl
theorem v_128_4 (xs : Option (List Int32)) (n : Nat) (d : Nat) (ml : List Value) (t : T) (Q : Option Value → T → Prop) (st : List Value) : vc xs zH_128 (n + 1) false d 128 4 ml st t Q = vgi ml 3 (fun v => vc xs zH_128 n true d 128 5 ml (.int v :: st) t Q) := by
  rw [vc_q (o := (1, 0, 3, 0, [])) (by decide +kernel)]; rfl
theorem h_128_4 (xs : Option (List Int32)) (n d : Nat) (ml st : List Value) (t : T) (Q : Option Value → T → Prop) : vc xs zH_128 (n + 1) true d 128 4 ml st t Q = twp xs d 128 4 ml st t Q := id rfl
theorem v_128_5 (xs : Option (List Int32)) (n : Nat) (b : Bool) (d : Nat) (ml : List Value) (t : T) (Q : Option Value → T → Prop) (st : List Value) : vc xs zH_128 (n + 1) b d 128 5 ml st t Q = vga ml 0 (fun v => vc xs zH_128 n true d 128 6 ml (.ref v :: st) t Q) := by
  rw [vc_q (o := (2, 0, 0, 0, [])) (by decide +kernel)]; rfl
theorem v_128_6 (xs : Option (List Int32)) (n : Nat) (b : Bool) (d : Nat) (ml : List Value) (t : T) (Q : Option Value → T → Prop) (u : Nat) (r : List Value) : vc xs zH_128 (n + 1) b d 128 6 ml (.ref u :: r) t Q = (vtag u = 3 ∧ vc xs zH_128 n true d 128 9 ml (.ref (tref t u 3) :: r) t Q) := by
  rw [vc_q (o := (25, 0, 3, 3, [])) (by decide +kernel)]; rfl
theorem v_128_9 (xs : Option (List Int32)) (n : Nat) (b : Bool) (d : Nat) (ml : List Value) (t : T) (Q : Option Value → T → Prop) (u : Nat) (r : List Value) : vc xs zH_128 (n + 1) b d 128 9 ml (.ref u :: r) t Q = (vtag u = 4 ∧ vc xs zH_128 n true d 128 12 ml (.int (t.1 u 0) :: r) t Q) := by
  rw [vc_q (o := (24, 0, 4, 0, [])) (by decide +kernel)]; rfl
theorem v_128_12 (xs : Option (List Int32)) (n : Nat) (b : Bool) (d : Nat) (ml : List Value) (t : T) (Q : Option Value → T → Prop) (u v : Int32) (r : List Value) : vc xs zH_128 (n + 1) b d 128 12 ml (.int v :: .int u :: r) t Q = (if u < v then vc xs zH_128 n true d 128 15 ml r t Q else vc xs zH_128 n true d 128 54 ml r t Q) := by
  rw [vc_q (o := (20, 0, 54, 3, [])) (by decide +kernel)]; rfl
theorem v_128_15 (xs : Option (List Int32)) (n : Nat) (b : Bool) (d : Nat) (ml : List Value) (t : T) (Q : Option Value → T → Prop) (st : List Value) : vc xs zH_128 (n + 1) b d 128 15 ml st t Q = vgi ml 1 (fun v => vc xs zH_128 n true d 128 16 ml (.int v :: st) t Q) := by
  rw [vc_q (o := (1, 0, 1, 0, [])) (by decide +kernel)]; rfl
theorem v_128_16 (xs : Option (List Int32)) (n : Nat) (b : Bool) (d : Nat) (ml : List Value) (t : T) (Q : Option Value → T → Prop) (st : List Value) : vc xs zH_128 (n + 1) b d 128 16 ml st t Q = vgi ml 3 (fun v => vc xs zH_128 n true d 128 17 ml (.int v :: st) t Q) := by
  rw [vc_q (o := (1, 0, 3, 0, [])) (by decide +kernel)]; rfl
theorem v_128_17 (xs : Option (List Int32)) (n : Nat) (b : Bool) (d : Nat) (ml : List Value) (t : T) (Q : Option Value → T → Prop) (u v : Int32) (r : List Value) : vc xs zH_128 (n + 1) b d 128 17 ml (.int v :: .int u :: r) t Q = vc xs zH_128 n true d 128 18 ml (.int (u >>> (v &&& 31)) :: r) t Q := by
  rw [vc_q (o := (13, 0, 0, 0, [])) (by decide +kernel)]; rfl
theorem v_128_18 (xs : Option (List Int32)) (n : Nat) (b : Bool) (d : Nat) (ml : List Value) (t : T) (Q : Option Value → T → Prop) (st : List Value) : vc xs zH_128 (n + 1) b d 128 18 ml st t Q = vc xs zH_128 n true d 128 19 ml (.int 1 :: st) t Q := by
  rw [vc_q (o := (0, 1, 0, 0, [])) (by decide +kernel)]; rfl
theorem v_128_19 (xs : Option (List Int32)) (n : Nat) (b : Bool) (d : Nat) (ml : List Value) (t : T) (Q : Option Value → T → Prop) (u v : Int32) (r : List Value) : vc xs zH_128 (n + 1) b d 128 19 ml (.int v :: .int u :: r) t Q = vc xs zH_128 n true d 128 20 ml (.int (u &&& v) :: r) t Q := by
  rw [vc_q (o := (9, 0, 0, 0, [])) (by decide +kernel)]; rfl
theorem v_128_20 (xs : Option (List Int32)) (n : Nat) (b : Bool) (d : Nat) (ml : List Value) (t : T) (Q : Option Value → T → Prop) (u : Int32) (r : List Value) : vc xs zH_128 (n + 1) b d 128 20 ml (.int u :: r) t Q = (if u = 0 then vc xs zH_128 n true d 128 23 ml r t Q else vc xs zH_128 n true d 128 48 ml r t Q) := by
  rw [vc_q (o := (21, 0, 48, 1, [])) (by decide +kernel)]; rfl
theorem v_128_23 (xs : Option (List Int32)) (n : Nat) (b : Bool) (d : Nat) (ml : List Value) (t : T) (Q : Option Value → T → Prop) (st : List Value) : vc xs zH_128 (n + 1) b d 128 23 ml st t Q = vga ml 0 (fun v => vc xs zH_128 n true d 128 24 ml (.ref v :: st) t Q) := by
  rw [vc_q (o := (2, 0, 0, 0, [])) (by decide +kernel)]; rfl
theorem v_128_24 (xs : Option (List Int32)) (n : Nat) (b : Bool) (d : Nat) (ml : List Value) (t : T) (Q : Option Value → T → Prop) (u : Nat) (r : List Value) : vc xs zH_128 (n + 1) b d 128 24 ml (.ref u :: r) t Q = (vtag u = 3 ∧ vc xs zH_128 n true d 128 27 ml (.ref (tref t u 2) :: r) t Q) := by
  rw [vc_q (o := (25, 0, 3, 2, [])) (by decide +kernel)]; rfl
theorem v_128_27 (xs : Option (List Int32)) (n : Nat) (b : Bool) (d : Nat) (ml : List Value) (t : T) (Q : Option Value → T → Prop) (st : List Value) : vc xs zH_128 (n + 1) b d 128 27 ml st t Q = vgi ml 3 (fun v => vc xs zH_128 n true d 128 28 ml (.int v :: st) t Q) := by
  rw [vc_q (o := (1, 0, 3, 0, [])) (by decide +kernel)]; rfl
theorem v_128_28 (xs : Option (List Int32)) (n : Nat) (b : Bool) (d : Nat) (ml : List Value) (t : T) (Q : Option Value → T → Prop) (v : Int32) (u : Nat) (r : List Value) : vc xs zH_128 (n + 1) b d 128 28 ml (.int v :: .ref u :: r) t Q = (vtag u = 100 ∧ vinb v (vlen u) ∧ vc xs zH_128 n true d 128 29 ml (.int (t.1 u v.toNatClampNeg) :: r) t Q) := by
  rw [vc_q (o := (29, 0, 0, 0, [])) (by decide +kernel)]; rfl
theorem v_128_29 (xs : Option (List Int32)) (n : Nat) (b : Bool) (d : Nat) (ml : List Value) (t : T) (Q : Option Value → T → Prop) (u : Int32) (r : List Value) : vc xs zH_128 (n + 1) b d 128 29 ml (.int u :: r) t Q = (if u = 0 then vc xs zH_128 n true d 128 48 ml r t Q else vc xs zH_128 n true d 128 32 ml r t Q) := by
  rw [vc_q (o := (21, 0, 48, 0, [])) (by decide +kernel)]; rfl
theorem v_128_32 (xs : Option (List Int32)) (n : Nat) (b : Bool) (d : Nat) (ml : List Value) (t : T) (Q : Option Value → T → Prop) (st : List Value) : vc xs zH_128 (n + 1) b d 128 32 ml st t Q = vgi ml 2 (fun v => vc xs zH_128 n true d 128 33 ml (.int v :: st) t Q) := by
  rw [vc_q (o := (1, 0, 2, 0, [])) (by decide +kernel)]; rfl
theorem v_128_33 (xs : Option (List Int32)) (n : Nat) (b : Bool) (d : Nat) (ml : List Value) (t : T) (Q : Option Value → T → Prop) (u : Int32) (r : List Value) : vc xs zH_128 (n + 1) b d 128 33 ml (.int u :: r) t Q = (if u < 0 then vc xs zH_128 n true d 128 46 ml r t Q else vc xs zH_128 n true d 128 36 ml r t Q) := by
  rw [vc_q (o := (21, 0, 46, 2, [])) (by decide +kernel)]; rfl
theorem v_128_36 (xs : Option (List Int32)) (n : Nat) (b : Bool) (d : Nat) (ml : List Value) (t : T) (Q : Option Value → T → Prop) (st : List Value) : vc xs zH_128 (n + 1) b d 128 36 ml st t Q = vga ml 0 (fun v => vc xs zH_128 n true d 128 37 ml (.ref v :: st) t Q) := by
  rw [vc_q (o := (2, 0, 0, 0, [])) (by decide +kernel)]; rfl
theorem v_128_37 (xs : Option (List Int32)) (n : Nat) (b : Bool) (d : Nat) (ml : List Value) (t : T) (Q : Option Value → T → Prop) (u : Nat) (r : List Value) : vc xs zH_128 (n + 1) b d 128 37 ml (.ref u :: r) t Q = (vtag u = 3 ∧ vc xs zH_128 n true d 128 40 ml (.ref (tref t u 2) :: r) t Q) := by
  rw [vc_q (o := (25, 0, 3, 2, [])) (by decide +kernel)]; rfl
theorem v_128_40 (xs : Option (List Int32)) (n : Nat) (b : Bool) (d : Nat) (ml : List Value) (t : T) (Q : Option Value → T → Prop) (st : List Value) : vc xs zH_128 (n + 1) b d 128 40 ml st t Q = vgi ml 3 (fun v => vc xs zH_128 n true d 128 41 ml (.int v :: st) t Q) := by
  rw [vc_q (o := (1, 0, 3, 0, [])) (by decide +kernel)]; rfl
theorem v_128_41 (xs : Option (List Int32)) (n : Nat) (b : Bool) (d : Nat) (ml : List Value) (t : T) (Q : Option Value → T → Prop) (v : Int32) (u : Nat) (r : List Value) : vc xs zH_128 (n + 1) b d 128 41 ml (.int v :: .ref u :: r) t Q = (vtag u = 100 ∧ vinb v (vlen u) ∧ vc xs zH_128 n true d 128 42 ml (.int (t.1 u v.toNatClampNeg) :: r) t Q) := by
  rw [vc_q (o := (29, 0, 0, 0, [])) (by decide +kernel)]; rfl
theorem v_128_42 (xs : Option (List Int32)) (n : Nat) (b : Bool) (d : Nat) (ml : List Value) (t : T) (Q : Option Value → T → Prop) (st : List Value) : vc xs zH_128 (n + 1) b d 128 42 ml st t Q = vc xs zH_128 n true d 128 43 ml (.int 1 :: st) t Q := by
  rw [vc_q (o := (0, 1, 0, 0, [])) (by decide +kernel)]; rfl
theorem v_128_43 (xs : Option (List Int32)) (n : Nat) (b : Bool) (d : Nat) (ml : List Value) (t : T) (Q : Option Value → T → Prop) (u v : Int32) (r : List Value) : vc xs zH_128 (n + 1) b d 128 43 ml (.int v :: .int u :: r) t Q = (if u = v then vc xs zH_128 n true d 128 46 ml r t Q else vc xs zH_128 n true d 128 48 ml r t Q) := by
  rw [vc_q (o := (20, 0, 48, 1, [])) (by decide +kernel)]; rfl
theorem v_128_46 (xs : Option (List Int32)) (n : Nat) (b : Bool) (d : Nat) (ml : List Value) (t : T) (Q : Option Value → T → Prop) (st : List Value) : vc xs zH_128 (n + 1) b d 128 46 ml st t Q = vgi ml 3 (fun v => vc xs zH_128 n true d 128 47 ml (.int v :: st) t Q) := by
  rw [vc_q (o := (1, 0, 3, 0, [])) (by decide +kernel)]; rfl
theorem v_128_47 (xs : Option (List Int32)) (n : Nat) (b : Bool) (d : Nat) (ml : List Value) (t : T) (Q : Option Value → T → Prop) (v : Int32) (r : List Value) : vc xs zH_128 (n + 1) b d 128 47 ml (.int v :: r) t Q = vset ml 2 (.int v) (fun l => vc xs zH_128 n true d 128 48 l r t Q) := by
  rw [vc_q (o := (3, 0, 2, 0, [])) (by decide +kernel)]; rfl
theorem v_128_48 (xs : Option (List Int32)) (n : Nat) (b : Bool) (d : Nat) (ml : List Value) (t : T) (Q : Option Value → T → Prop) (st : List Value) : vc xs zH_128 (n + 1) b d 128 48 ml st t Q = vgi ml 3 (fun v => vset ml 3 (.int (v + 1)) (fun l => vc xs zH_128 n true d 128 51 l st t Q)) := by
  rw [vc_q (o := (5, 1, 3, 0, [])) (by decide +kernel)]; rfl
theorem v_128_51 (xs : Option (List Int32)) (n : Nat) (b : Bool) (d : Nat) (ml : List Value) (t : T) (Q : Option Value → T → Prop) (st : List Value) : vc xs zH_128 (n + 1) b d 128 51 ml st t Q = vc xs zH_128 n true d 128 4 ml st t Q := by
  rw [vc_q (o := (22, 0, 4, 0, [])) (by decide +kernel)]; rfl
theorem v_128_54 (xs : Option (List Int32)) (n : Nat) (b : Bool) (d : Nat) (ml : List Value) (t : T) (Q : Option Value → T → Prop) (st : List Value) : vc xs zH_128 (n + 1) b d 128 54 ml st t Q = vgi ml 2 (fun v => vc xs zH_128 n true d 128 55 ml (.int v :: st) t Q) := by
  rw [vc_q (o := (1, 0, 2, 0, [])) (by decide +kernel)]; rfl
theorem v_128_55 (xs : Option (List Int32)) (n : Nat) (b : Bool) (d : Nat) (ml : List Value) (t : T) (Q : Option Value → T → Prop) (v : Int32) : vc xs zH_128 (n + 1) b d 128 55 ml [.int v] t Q = Q (some (.int v)) t := by
  rw [vc_q (o := (40, 0, 0, 0, [])) (by decide +kernel)]; rfl
def zH_129 : List Nat := []
theorem v_129_0 (xs : Option (List Int32)) (n : Nat) (b : Bool) (d : Nat) (ml : List Value) (t : T) (Q : Option Value → T → Prop) (st : List Value) : vc xs zH_129 (n + 1) b d 129 0 ml st t Q = vgi ml 0 (fun v => vc xs zH_129 n true d 129 1 ml (.int v :: st) t Q) := by
  rw [vc_q (o := (1, 0, 0, 0, [])) (by decide +kernel)]; rfl
theorem v_129_1 (xs : Option (List Int32)) (n : Nat) (b : Bool) (d : Nat) (ml : List Value) (t : T) (Q : Option Value → T → Prop) (st : List Value) : vc xs zH_129 (n + 1) b d 129 1 ml st t Q = vc xs zH_129 n true d 129 2 ml (.int 2 :: st) t Q := by
  rw [vc_q (o := (0, 2, 0, 0, [])) (by decide +kernel)]; rfl
theorem v_129_2 (xs : Option (List Int32)) (n : Nat) (b : Bool) (d : Nat) (ml : List Value) (t : T) (Q : Option Value → T → Prop) (u v : Int32) (r : List Value) : vc xs zH_129 (n + 1) b d 129 2 ml (.int v :: .int u :: r) t Q = (if u = v then vc xs zH_129 n true d 129 5 ml r t Q else vc xs zH_129 n true d 129 9 ml r t Q) := by
  rw [vc_q (o := (20, 0, 9, 1, [])) (by decide +kernel)]; rfl
theorem v_129_5 (xs : Option (List Int32)) (n : Nat) (b : Bool) (d : Nat) (ml : List Value) (t : T) (Q : Option Value → T → Prop) (st : List Value) : vc xs zH_129 (n + 1) b d 129 5 ml st t Q = vc xs zH_129 n true d 129 6 ml (.int 2 :: st) t Q := by
  rw [vc_q (o := (0, 2, 0, 0, [])) (by decide +kernel)]; rfl
theorem v_129_6 (xs : Option (List Int32)) (n : Nat) (b : Bool) (d : Nat) (ml : List Value) (t : T) (Q : Option Value → T → Prop) (st : List Value) : vc xs zH_129 (n + 1) b d 129 6 ml st t Q = vc xs zH_129 n true d 129 12 ml st t Q := by
  rw [vc_q (o := (22, 0, 12, 0, [])) (by decide +kernel)]; rfl
theorem v_129_9 (xs : Option (List Int32)) (n : Nat) (b : Bool) (d : Nat) (ml : List Value) (t : T) (Q : Option Value → T → Prop) (st : List Value) : vc xs zH_129 (n + 1) b d 129 9 ml st t Q = vc xs zH_129 n true d 129 10 ml (.int 1 :: st) t Q := by
  rw [vc_q (o := (0, 1, 0, 0, [])) (by decide +kernel)]; rfl
theorem v_129_10 (xs : Option (List Int32)) (n : Nat) (b : Bool) (d : Nat) (ml : List Value) (t : T) (Q : Option Value → T → Prop) (st : List Value) : vc xs zH_129 (n + 1) b d 129 10 ml st t Q = vgi ml 0 (fun v => vc xs zH_129 n true d 129 11 ml (.int v :: st) t Q) := by
  rw [vc_q (o := (1, 0, 0, 0, [])) (by decide +kernel)]; rfl
theorem v_129_11 (xs : Option (List Int32)) (n : Nat) (b : Bool) (d : Nat) (ml : List Value) (t : T) (Q : Option Value → T → Prop) (u v : Int32) (r : List Value) : vc xs zH_129 (n + 1) b d 129 11 ml (.int v :: .int u :: r) t Q = vc xs zH_129 n true d 129 12 ml (.int (u - v) :: r) t Q := by
  rw [vc_q (o := (7, 0, 0, 0, [])) (by decide +kernel)]; rfl
theorem v_129_12 (xs : Option (List Int32)) (n : Nat) (b : Bool) (d : Nat) (ml : List Value) (t : T) (Q : Option Value → T → Prop) (v : Int32) : vc xs zH_129 (n + 1) b d 129 12 ml [.int v] t Q = Q (some (.int v)) t := by
  rw [vc_q (o := (40, 0, 0, 0, [])) (by decide +kernel)]; rfl
def zH_130 : List Nat := []
theorem v_130_0 (xs : Option (List Int32)) (n : Nat) (b : Bool) (d : Nat) (ml : List Value) (t : T) (Q : Option Value → T → Prop) (st : List Value) : vc xs zH_130 (n + 1) b d 130 0 ml st t Q = vgi ml 0 (fun v => vc xs zH_130 n true d 130 1 ml (.int v :: st) t Q) := by
  rw [vc_q (o := (1, 0, 0, 0, [])) (by decide +kernel)]; rfl
theorem v_130_1 (xs : Option (List Int32)) (n : Nat) (b : Bool) (d : Nat) (ml : List Value) (t : T) (Q : Option Value → T → Prop) (u : Int32) (r : List Value) : vc xs zH_130 (n + 1) b d 130 1 ml (.int u :: r) t Q = (if u = 0 then vc xs zH_130 n true d 130 8 ml r t Q else vc xs zH_130 n true d 130 4 ml r t Q) := by
  rw [vc_q (o := (21, 0, 8, 0, [])) (by decide +kernel)]; rfl
theorem v_130_4 (xs : Option (List Int32)) (n : Nat) (b : Bool) (d : Nat) (ml : List Value) (t : T) (Q : Option Value → T → Prop) (st : List Value) : vc xs zH_130 (n + 1) b d 130 4 ml st t Q = vgi ml 1 (fun v => vc xs zH_130 n true d 130 5 ml (.int v :: st) t Q) := by
  rw [vc_q (o := (1, 0, 1, 0, [])) (by decide +kernel)]; rfl
theorem v_130_5 (xs : Option (List Int32)) (n : Nat) (b : Bool) (d : Nat) (ml : List Value) (t : T) (Q : Option Value → T → Prop) (u : Int32) (r : List Value) : vc xs zH_130 (n + 1) b d 130 5 ml (.int u :: r) t Q = (if u = 0 then vc xs zH_130 n true d 130 8 ml r t Q else vc xs zH_130 n true d 130 10 ml r t Q) := by
  rw [vc_q (o := (21, 0, 10, 1, [])) (by decide +kernel)]; rfl
theorem v_130_8 (xs : Option (List Int32)) (n : Nat) (b : Bool) (d : Nat) (ml : List Value) (t : T) (Q : Option Value → T → Prop) (st : List Value) : vc xs zH_130 (n + 1) b d 130 8 ml st t Q = vc xs zH_130 n true d 130 9 ml (.int 0 :: st) t Q := by
  rw [vc_q (o := (0, 0, 0, 0, [])) (by decide +kernel)]; rfl
theorem v_130_9 (xs : Option (List Int32)) (n : Nat) (b : Bool) (d : Nat) (ml : List Value) (t : T) (Q : Option Value → T → Prop) (v : Int32) : vc xs zH_130 (n + 1) b d 130 9 ml [.int v] t Q = Q (some (.int v)) t := by
  rw [vc_q (o := (40, 0, 0, 0, [])) (by decide +kernel)]; rfl
theorem v_130_10 (xs : Option (List Int32)) (n : Nat) (b : Bool) (d : Nat) (ml : List Value) (t : T) (Q : Option Value → T → Prop) (st : List Value) : vc xs zH_130 (n + 1) b d 130 10 ml st t Q = vgi ml 0 (fun v => vc xs zH_130 n true d 130 11 ml (.int v :: st) t Q) := by
  rw [vc_q (o := (1, 0, 0, 0, [])) (by decide +kernel)]; rfl
theorem v_130_11 (xs : Option (List Int32)) (n : Nat) (b : Bool) (d : Nat) (ml : List Value) (t : T) (Q : Option Value → T → Prop) (st : List Value) : vc xs zH_130 (n + 1) b d 130 11 ml st t Q = vc xs zH_130 n true d 130 12 ml (.int 1 :: st) t Q := by
  rw [vc_q (o := (0, 1, 0, 0, [])) (by decide +kernel)]; rfl
theorem v_130_12 (xs : Option (List Int32)) (n : Nat) (b : Bool) (d : Nat) (ml : List Value) (t : T) (Q : Option Value → T → Prop) (u v : Int32) (r : List Value) : vc xs zH_130 (n + 1) b d 130 12 ml (.int v :: .int u :: r) t Q = (if u = v then vc xs zH_130 n true d 130 15 ml r t Q else vc xs zH_130 n true d 130 19 ml r t Q) := by
  rw [vc_q (o := (20, 0, 19, 1, [])) (by decide +kernel)]; rfl
theorem v_130_15 (xs : Option (List Int32)) (n : Nat) (b : Bool) (d : Nat) (ml : List Value) (t : T) (Q : Option Value → T → Prop) (st : List Value) : vc xs zH_130 (n + 1) b d 130 15 ml st t Q = vgi ml 1 (fun v => vc xs zH_130 n true d 130 16 ml (.int v :: st) t Q) := by
  rw [vc_q (o := (1, 0, 1, 0, [])) (by decide +kernel)]; rfl
theorem v_130_16 (xs : Option (List Int32)) (n : Nat) (b : Bool) (d : Nat) (ml : List Value) (t : T) (Q : Option Value → T → Prop) (st : List Value) : vc xs zH_130 (n + 1) b d 130 16 ml st t Q = vc xs zH_130 n true d 130 20 ml st t Q := by
  rw [vc_q (o := (22, 0, 20, 0, [])) (by decide +kernel)]; rfl
theorem v_130_19 (xs : Option (List Int32)) (n : Nat) (b : Bool) (d : Nat) (ml : List Value) (t : T) (Q : Option Value → T → Prop) (st : List Value) : vc xs zH_130 (n + 1) b d 130 19 ml st t Q = vc xs zH_130 n true d 130 20 ml (.int 2 :: st) t Q := by
  rw [vc_q (o := (0, 2, 0, 0, [])) (by decide +kernel)]; rfl
theorem v_130_20 (xs : Option (List Int32)) (n : Nat) (b : Bool) (d : Nat) (ml : List Value) (t : T) (Q : Option Value → T → Prop) (v : Int32) : vc xs zH_130 (n + 1) b d 130 20 ml [.int v] t Q = Q (some (.int v)) t := by
  rw [vc_q (o := (40, 0, 0, 0, [])) (by decide +kernel)]; rfl
def zH_131 : List Nat := []
theorem v_131_0 (xs : Option (List Int32)) (n : Nat) (b : Bool) (d : Nat) (ml : List Value) (t : T) (Q : Option Value → T → Prop) (st : List Value) : vc xs zH_131 (n + 1) b d 131 0 ml st t Q = vgi ml 0 (fun v => vc xs zH_131 n true d 131 1 ml (.int v :: st) t Q) := by
  rw [vc_q (o := (1, 0, 0, 0, [])) (by decide +kernel)]; rfl
theorem v_131_1 (xs : Option (List Int32)) (n : Nat) (b : Bool) (d : Nat) (ml : List Value) (t : T) (Q : Option Value → T → Prop) (st : List Value) : vc xs zH_131 (n + 1) b d 131 1 ml st t Q = vc xs zH_131 n true d 131 2 ml (.int 1 :: st) t Q := by
  rw [vc_q (o := (0, 1, 0, 0, [])) (by decide +kernel)]; rfl
theorem v_131_2 (xs : Option (List Int32)) (n : Nat) (b : Bool) (d : Nat) (ml : List Value) (t : T) (Q : Option Value → T → Prop) (u v : Int32) (r : List Value) : vc xs zH_131 (n + 1) b d 131 2 ml (.int v :: .int u :: r) t Q = (if u = v then vc xs zH_131 n true d 131 10 ml r t Q else vc xs zH_131 n true d 131 5 ml r t Q) := by
  rw [vc_q (o := (20, 0, 10, 0, [])) (by decide +kernel)]; rfl
theorem v_131_5 (xs : Option (List Int32)) (n : Nat) (b : Bool) (d : Nat) (ml : List Value) (t : T) (Q : Option Value → T → Prop) (st : List Value) : vc xs zH_131 (n + 1) b d 131 5 ml st t Q = vgi ml 1 (fun v => vc xs zH_131 n true d 131 6 ml (.int v :: st) t Q) := by
  rw [vc_q (o := (1, 0, 1, 0, [])) (by decide +kernel)]; rfl
theorem v_131_6 (xs : Option (List Int32)) (n : Nat) (b : Bool) (d : Nat) (ml : List Value) (t : T) (Q : Option Value → T → Prop) (st : List Value) : vc xs zH_131 (n + 1) b d 131 6 ml st t Q = vc xs zH_131 n true d 131 7 ml (.int 1 :: st) t Q := by
  rw [vc_q (o := (0, 1, 0, 0, [])) (by decide +kernel)]; rfl
theorem v_131_7 (xs : Option (List Int32)) (n : Nat) (b : Bool) (d : Nat) (ml : List Value) (t : T) (Q : Option Value → T → Prop) (u v : Int32) (r : List Value) : vc xs zH_131 (n + 1) b d 131 7 ml (.int v :: .int u :: r) t Q = (if u = v then vc xs zH_131 n true d 131 10 ml r t Q else vc xs zH_131 n true d 131 12 ml r t Q) := by
  rw [vc_q (o := (20, 0, 12, 1, [])) (by decide +kernel)]; rfl
theorem v_131_10 (xs : Option (List Int32)) (n : Nat) (b : Bool) (d : Nat) (ml : List Value) (t : T) (Q : Option Value → T → Prop) (st : List Value) : vc xs zH_131 (n + 1) b d 131 10 ml st t Q = vc xs zH_131 n true d 131 11 ml (.int 1 :: st) t Q := by
  rw [vc_q (o := (0, 1, 0, 0, [])) (by decide +kernel)]; rfl
theorem v_131_11 (xs : Option (List Int32)) (n : Nat) (b : Bool) (d : Nat) (ml : List Value) (t : T) (Q : Option Value → T → Prop) (v : Int32) : vc xs zH_131 (n + 1) b d 131 11 ml [.int v] t Q = Q (some (.int v)) t := by
  rw [vc_q (o := (40, 0, 0, 0, [])) (by decide +kernel)]; rfl
theorem v_131_12 (xs : Option (List Int32)) (n : Nat) (b : Bool) (d : Nat) (ml : List Value) (t : T) (Q : Option Value → T → Prop) (st : List Value) : vc xs zH_131 (n + 1) b d 131 12 ml st t Q = vgi ml 0 (fun v => vc xs zH_131 n true d 131 13 ml (.int v :: st) t Q) := by
  rw [vc_q (o := (1, 0, 0, 0, [])) (by decide +kernel)]; rfl
theorem v_131_13 (xs : Option (List Int32)) (n : Nat) (b : Bool) (d : Nat) (ml : List Value) (t : T) (Q : Option Value → T → Prop) (u : Int32) (r : List Value) : vc xs zH_131 (n + 1) b d 131 13 ml (.int u :: r) t Q = (if u = 0 then vc xs zH_131 n true d 131 16 ml r t Q else vc xs zH_131 n true d 131 20 ml r t Q) := by
  rw [vc_q (o := (21, 0, 20, 1, [])) (by decide +kernel)]; rfl
theorem v_131_16 (xs : Option (List Int32)) (n : Nat) (b : Bool) (d : Nat) (ml : List Value) (t : T) (Q : Option Value → T → Prop) (st : List Value) : vc xs zH_131 (n + 1) b d 131 16 ml st t Q = vgi ml 1 (fun v => vc xs zH_131 n true d 131 17 ml (.int v :: st) t Q) := by
  rw [vc_q (o := (1, 0, 1, 0, [])) (by decide +kernel)]; rfl
theorem v_131_17 (xs : Option (List Int32)) (n : Nat) (b : Bool) (d : Nat) (ml : List Value) (t : T) (Q : Option Value → T → Prop) (st : List Value) : vc xs zH_131 (n + 1) b d 131 17 ml st t Q = vc xs zH_131 n true d 131 21 ml st t Q := by
  rw [vc_q (o := (22, 0, 21, 0, [])) (by decide +kernel)]; rfl
theorem v_131_20 (xs : Option (List Int32)) (n : Nat) (b : Bool) (d : Nat) (ml : List Value) (t : T) (Q : Option Value → T → Prop) (st : List Value) : vc xs zH_131 (n + 1) b d 131 20 ml st t Q = vc xs zH_131 n true d 131 21 ml (.int 2 :: st) t Q := by
  rw [vc_q (o := (0, 2, 0, 0, [])) (by decide +kernel)]; rfl
theorem v_131_21 (xs : Option (List Int32)) (n : Nat) (b : Bool) (d : Nat) (ml : List Value) (t : T) (Q : Option Value → T → Prop) (v : Int32) : vc xs zH_131 (n + 1) b d 131 21 ml [.int v] t Q = Q (some (.int v)) t := by
  rw [vc_q (o := (40, 0, 0, 0, [])) (by decide +kernel)]; rfl
def zH_134 : List Nat := []
theorem v_134_0 (xs : Option (List Int32)) (n : Nat) (b : Bool) (d : Nat) (ml : List Value) (t : T) (Q : Option Value → T → Prop) (st : List Value) : vc xs zH_134 (n + 1) b d 134 0 ml st t Q = vgi ml 1 (fun v => vc xs zH_134 n true d 134 1 ml (.int v :: st) t Q) := by
  rw [vc_q (o := (1, 0, 1, 0, [])) (by decide +kernel)]; rfl
theorem v_134_1 (xs : Option (List Int32)) (n : Nat) (b : Bool) (d : Nat) (ml : List Value) (t : T) (Q : Option Value → T → Prop) (st : List Value) : vc xs zH_134 (n + 1) b d 134 1 ml st t Q = vga ml 0 (fun v => vc xs zH_134 n true d 134 2 ml (.ref v :: st) t Q) := by
  rw [vc_q (o := (2, 0, 0, 0, [])) (by decide +kernel)]; rfl
theorem v_134_2 (xs : Option (List Int32)) (n : Nat) (b : Bool) (d : Nat) (ml : List Value) (t : T) (Q : Option Value → T → Prop) (u : Nat) (r : List Value) : vc xs zH_134 (n + 1) b d 134 2 ml (.ref u :: r) t Q = (vtag u = 1 ∧ vc xs zH_134 n true d 134 5 ml (.int (t.1 u 1) :: r) t Q) := by
  rw [vc_q (o := (24, 0, 1, 1, [])) (by decide +kernel)]; rfl
theorem v_134_5 (xs : Option (List Int32)) (n : Nat) (b : Bool) (d : Nat) (ml : List Value) (t : T) (Q : Option Value → T → Prop) (st : List Value) : vc xs zH_134 (n + 1) b d 134 5 ml st t Q = (st.all zc1 = true ∧ vtk 2 st [] (fun as rest => rest.length ≤ 8 ∧ twc d 22 as t (fun r t' => vc xs zH_134 n true d 134 8 ml (r.toList ++ rest) t' Q))) := by
  rw [vc_q (o := (37, 0, 22, 2, [])) (by decide +kernel)]; rfl
theorem v_134_8 (xs : Option (List Int32)) (n : Nat) (b : Bool) (d : Nat) (ml : List Value) (t : T) (Q : Option Value → T → Prop) (u : Int32) (r : List Value) : vc xs zH_134 (n + 1) b d 134 8 ml (.int u :: r) t Q = (if u = 0 then vc xs zH_134 n true d 134 31 ml r t Q else vc xs zH_134 n true d 134 11 ml r t Q) := by
  rw [vc_q (o := (21, 0, 31, 0, [])) (by decide +kernel)]; rfl
theorem v_134_11 (xs : Option (List Int32)) (n : Nat) (b : Bool) (d : Nat) (ml : List Value) (t : T) (Q : Option Value → T → Prop) (st : List Value) : vc xs zH_134 (n + 1) b d 134 11 ml st t Q = vga ml 0 (fun v => vc xs zH_134 n true d 134 12 ml (.ref v :: st) t Q) := by
  rw [vc_q (o := (2, 0, 0, 0, [])) (by decide +kernel)]; rfl
theorem v_134_12 (xs : Option (List Int32)) (n : Nat) (b : Bool) (d : Nat) (ml : List Value) (t : T) (Q : Option Value → T → Prop) (u : Nat) (r : List Value) : vc xs zH_134 (n + 1) b d 134 12 ml (.ref u :: r) t Q = (vtag u = 1 ∧ vc xs zH_134 n true d 134 15 ml (.ref (tref t u 0) :: r) t Q) := by
  rw [vc_q (o := (25, 0, 1, 0, [])) (by decide +kernel)]; rfl
theorem v_134_15 (xs : Option (List Int32)) (n : Nat) (b : Bool) (d : Nat) (ml : List Value) (t : T) (Q : Option Value → T → Prop) (st : List Value) : vc xs zH_134 (n + 1) b d 134 15 ml st t Q = vgi ml 1 (fun v => vc xs zH_134 n true d 134 16 ml (.int v :: st) t Q) := by
  rw [vc_q (o := (1, 0, 1, 0, [])) (by decide +kernel)]; rfl
theorem v_134_16 (xs : Option (List Int32)) (n : Nat) (b : Bool) (d : Nat) (ml : List Value) (t : T) (Q : Option Value → T → Prop) (v : Int32) (u : Nat) (r : List Value) : vc xs zH_134 (n + 1) b d 134 16 ml (.int v :: .ref u :: r) t Q = (103 ≤ vtag u ∧ vtag u < 108 ∧ vinb v (vlen u) ∧ vc xs zH_134 n true d 134 17 ml (.ref (tref t u v.toNatClampNeg) :: r) t Q) := by
  rw [vc_q (o := (31, 0, 0, 0, [])) (by decide +kernel)]; rfl
theorem v_134_17 (xs : Option (List Int32)) (n : Nat) (b : Bool) (d : Nat) (ml : List Value) (t : T) (Q : Option Value → T → Prop) (u : Nat) (r : List Value) : vc xs zH_134 (n + 1) b d 134 17 ml (.ref u :: r) t Q = (vtag u = 2 ∧ vc xs zH_134 n true d 134 20 ml (.int (t.1 u 6) :: r) t Q) := by
  rw [vc_q (o := (24, 0, 2, 6, [])) (by decide +kernel)]; rfl
theorem v_134_20 (xs : Option (List Int32)) (n : Nat) (b : Bool) (d : Nat) (ml : List Value) (t : T) (Q : Option Value → T → Prop) (st : List Value) : vc xs zH_134 (n + 1) b d 134 20 ml st t Q = vgi ml 2 (fun v => vc xs zH_134 n true d 134 21 ml (.int v :: st) t Q) := by
  rw [vc_q (o := (1, 0, 2, 0, [])) (by decide +kernel)]; rfl
theorem v_134_21 (xs : Option (List Int32)) (n : Nat) (b : Bool) (d : Nat) (ml : List Value) (t : T) (Q : Option Value → T → Prop) (st : List Value) : vc xs zH_134 (n + 1) b d 134 21 ml st t Q = vc xs zH_134 n true d 134 22 ml (.int (-1) :: st) t Q := by
  rw [vc_q (o := (0, (-1), 0, 0, [])) (by decide +kernel)]; rfl
theorem v_134_22 (xs : Option (List Int32)) (n : Nat) (b : Bool) (d : Nat) (ml : List Value) (t : T) (Q : Option Value → T → Prop) (u v : Int32) (r : List Value) : vc xs zH_134 (n + 1) b d 134 22 ml (.int v :: .int u :: r) t Q = vc xs zH_134 n true d 134 23 ml (.int (u ^^^ v) :: r) t Q := by
  rw [vc_q (o := (11, 0, 0, 0, [])) (by decide +kernel)]; rfl
theorem v_134_23 (xs : Option (List Int32)) (n : Nat) (b : Bool) (d : Nat) (ml : List Value) (t : T) (Q : Option Value → T → Prop) (u v : Int32) (r : List Value) : vc xs zH_134 (n + 1) b d 134 23 ml (.int v :: .int u :: r) t Q = vc xs zH_134 n true d 134 24 ml (.int (u &&& v) :: r) t Q := by
  rw [vc_q (o := (9, 0, 0, 0, [])) (by decide +kernel)]; rfl
theorem v_134_24 (xs : Option (List Int32)) (n : Nat) (b : Bool) (d : Nat) (ml : List Value) (t : T) (Q : Option Value → T → Prop) (u : Int32) (r : List Value) : vc xs zH_134 (n + 1) b d 134 24 ml (.int u :: r) t Q = (if u = 0 then vc xs zH_134 n true d 134 27 ml r t Q else vc xs zH_134 n true d 134 31 ml r t Q) := by
  rw [vc_q (o := (21, 0, 31, 1, [])) (by decide +kernel)]; rfl
theorem v_134_27 (xs : Option (List Int32)) (n : Nat) (b : Bool) (d : Nat) (ml : List Value) (t : T) (Q : Option Value → T → Prop) (st : List Value) : vc xs zH_134 (n + 1) b d 134 27 ml st t Q = vc xs zH_134 n true d 134 28 ml (.int 1 :: st) t Q := by
  rw [vc_q (o := (0, 1, 0, 0, [])) (by decide +kernel)]; rfl
theorem v_134_28 (xs : Option (List Int32)) (n : Nat) (b : Bool) (d : Nat) (ml : List Value) (t : T) (Q : Option Value → T → Prop) (st : List Value) : vc xs zH_134 (n + 1) b d 134 28 ml st t Q = vc xs zH_134 n true d 134 32 ml st t Q := by
  rw [vc_q (o := (22, 0, 32, 0, [])) (by decide +kernel)]; rfl
theorem v_134_31 (xs : Option (List Int32)) (n : Nat) (b : Bool) (d : Nat) (ml : List Value) (t : T) (Q : Option Value → T → Prop) (st : List Value) : vc xs zH_134 (n + 1) b d 134 31 ml st t Q = vc xs zH_134 n true d 134 32 ml (.int 0 :: st) t Q := by
  rw [vc_q (o := (0, 0, 0, 0, [])) (by decide +kernel)]; rfl
theorem v_134_32 (xs : Option (List Int32)) (n : Nat) (b : Bool) (d : Nat) (ml : List Value) (t : T) (Q : Option Value → T → Prop) (v : Int32) : vc xs zH_134 (n + 1) b d 134 32 ml [.int v] t Q = ((v = 0 ∨ v = 1) ∧ Q (some (.int v)) t) := by
  rw [vc_q (o := (41, 0, 0, 0, [])) (by decide +kernel)]; rfl
def zH_135 : List Nat := []
theorem v_135_0 (xs : Option (List Int32)) (n : Nat) (b : Bool) (d : Nat) (ml : List Value) (t : T) (Q : Option Value → T → Prop) (st : List Value) : vc xs zH_135 (n + 1) b d 135 0 ml st t Q = vgi ml 1 (fun v => vc xs zH_135 n true d 135 1 ml (.int v :: st) t Q) := by
  rw [vc_q (o := (1, 0, 1, 0, [])) (by decide +kernel)]; rfl
theorem v_135_1 (xs : Option (List Int32)) (n : Nat) (b : Bool) (d : Nat) (ml : List Value) (t : T) (Q : Option Value → T → Prop) (u : Int32) (r : List Value) : vc xs zH_135 (n + 1) b d 135 1 ml (.int u :: r) t Q = vsw (fun p => vc xs zH_135 n true d 135 p ml r t Q) u [(0, 52), (1, 58), (2, 103), (3, 128), (4, 135), (5, 135), (6, 159), (7, 159), (8, 183)] 229 := by
  rw [vc_q (o := (23, 0, 229, 0, [(0, 52), (1, 58), (2, 103), (3, 128), (4, 135), (5, 135), (6, 159), (7, 159), (8, 183)])) (by decide +kernel)]; rfl
theorem v_135_52 (xs : Option (List Int32)) (n : Nat) (b : Bool) (d : Nat) (ml : List Value) (t : T) (Q : Option Value → T → Prop) (st : List Value) : vc xs zH_135 (n + 1) b d 135 52 ml st t Q = vgi ml 2 (fun v => vc xs zH_135 n true d 135 53 ml (.int v :: st) t Q) := by
  rw [vc_q (o := (1, 0, 2, 0, [])) (by decide +kernel)]; rfl
theorem v_135_53 (xs : Option (List Int32)) (n : Nat) (b : Bool) (d : Nat) (ml : List Value) (t : T) (Q : Option Value → T → Prop) (st : List Value) : vc xs zH_135 (n + 1) b d 135 53 ml st t Q = vc xs zH_135 n true d 135 54 ml (.int 3 :: st) t Q := by
  rw [vc_q (o := (0, 3, 0, 0, [])) (by decide +kernel)]; rfl
theorem v_135_54 (xs : Option (List Int32)) (n : Nat) (b : Bool) (d : Nat) (ml : List Value) (t : T) (Q : Option Value → T → Prop) (st : List Value) : vc xs zH_135 (n + 1) b d 135 54 ml st t Q = (st.all zc1 = true ∧ vtk 2 st [] (fun as rest => rest.length ≤ 8 ∧ twc d 22 as t (fun r t' => vc xs zH_135 n true d 135 57 ml (r.toList ++ rest) t' Q))) := by
  rw [vc_q (o := (37, 0, 22, 2, [])) (by decide +kernel)]; rfl
theorem v_135_57 (xs : Option (List Int32)) (n : Nat) (b : Bool) (d : Nat) (ml : List Value) (t : T) (Q : Option Value → T → Prop) (v : Int32) : vc xs zH_135 (n + 1) b d 135 57 ml [.int v] t Q = ((v = 0 ∨ v = 1) ∧ Q (some (.int v)) t) := by
  rw [vc_q (o := (41, 0, 0, 0, [])) (by decide +kernel)]; rfl
theorem v_135_58 (xs : Option (List Int32)) (n : Nat) (b : Bool) (d : Nat) (ml : List Value) (t : T) (Q : Option Value → T → Prop) (st : List Value) : vc xs zH_135 (n + 1) b d 135 58 ml st t Q = vgi ml 2 (fun v => vc xs zH_135 n true d 135 59 ml (.int v :: st) t Q) := by
  rw [vc_q (o := (1, 0, 2, 0, [])) (by decide +kernel)]; rfl
theorem v_135_59 (xs : Option (List Int32)) (n : Nat) (b : Bool) (d : Nat) (ml : List Value) (t : T) (Q : Option Value → T → Prop) (st : List Value) : vc xs zH_135 (n + 1) b d 135 59 ml st t Q = vc xs zH_135 n true d 135 61 ml (.int 8 :: st) t Q := by
  rw [vc_q (o := (0, 8, 1, 0, [])) (by decide +kernel)]; rfl
theorem v_135_61 (xs : Option (List Int32)) (n : Nat) (b : Bool) (d : Nat) (ml : List Value) (t : T) (Q : Option Value → T → Prop) (st : List Value) : vc xs zH_135 (n + 1) b d 135 61 ml st t Q = (st.all zc1 = true ∧ vtk 2 st [] (fun as rest => rest.length ≤ 8 ∧ twc d 22 as t (fun r t' => vc xs zH_135 n true d 135 64 ml (r.toList ++ rest) t' Q))) := by
  rw [vc_q (o := (37, 0, 22, 2, [])) (by decide +kernel)]; rfl
theorem v_135_64 (xs : Option (List Int32)) (n : Nat) (b : Bool) (d : Nat) (ml : List Value) (t : T) (Q : Option Value → T → Prop) (u : Int32) (r : List Value) : vc xs zH_135 (n + 1) b d 135 64 ml (.int u :: r) t Q = (if u = 0 then vc xs zH_135 n true d 135 101 ml r t Q else vc xs zH_135 n true d 135 67 ml r t Q) := by
  rw [vc_q (o := (21, 0, 101, 0, [])) (by decide +kernel)]; rfl
theorem v_135_67 (xs : Option (List Int32)) (n : Nat) (b : Bool) (d : Nat) (ml : List Value) (t : T) (Q : Option Value → T → Prop) (st : List Value) : vc xs zH_135 (n + 1) b d 135 67 ml st t Q = vgi ml 2 (fun v => vc xs zH_135 n true d 135 68 ml (.int v :: st) t Q) := by
  rw [vc_q (o := (1, 0, 2, 0, [])) (by decide +kernel)]; rfl
theorem v_135_68 (xs : Option (List Int32)) (n : Nat) (b : Bool) (d : Nat) (ml : List Value) (t : T) (Q : Option Value → T → Prop) (st : List Value) : vc xs zH_135 (n + 1) b d 135 68 ml st t Q = vc xs zH_135 n true d 135 69 ml (.int 2 :: st) t Q := by
  rw [vc_q (o := (0, 2, 0, 0, [])) (by decide +kernel)]; rfl
theorem v_135_69 (xs : Option (List Int32)) (n : Nat) (b : Bool) (d : Nat) (ml : List Value) (t : T) (Q : Option Value → T → Prop) (u v : Int32) (r : List Value) : vc xs zH_135 (n + 1) b d 135 69 ml (.int v :: .int u :: r) t Q = (if u < v then vc xs zH_135 n true d 135 81 ml r t Q else vc xs zH_135 n true d 135 72 ml r t Q) := by
  rw [vc_q (o := (20, 0, 81, 2, [])) (by decide +kernel)]; rfl
theorem v_135_72 (xs : Option (List Int32)) (n : Nat) (b : Bool) (d : Nat) (ml : List Value) (t : T) (Q : Option Value → T → Prop) (st : List Value) : vc xs zH_135 (n + 1) b d 135 72 ml st t Q = vgi ml 3 (fun v => vc xs zH_135 n true d 135 73 ml (.int v :: st) t Q) := by
  rw [vc_q (o := (1, 0, 3, 0, [])) (by decide +kernel)]; rfl
theorem v_135_73 (xs : Option (List Int32)) (n : Nat) (b : Bool) (d : Nat) (ml : List Value) (t : T) (Q : Option Value → T → Prop) (st : List Value) : vc xs zH_135 (n + 1) b d 135 73 ml st t Q = vc xs zH_135 n true d 135 75 ml (.int 6 :: st) t Q := by
  rw [vc_q (o := (0, 6, 1, 0, [])) (by decide +kernel)]; rfl
theorem v_135_75 (xs : Option (List Int32)) (n : Nat) (b : Bool) (d : Nat) (ml : List Value) (t : T) (Q : Option Value → T → Prop) (st : List Value) : vc xs zH_135 (n + 1) b d 135 75 ml st t Q = (st.all zc1 = true ∧ vtk 2 st [] (fun as rest => rest.length ≤ 8 ∧ twc d 22 as t (fun r t' => vc xs zH_135 n true d 135 78 ml (r.toList ++ rest) t' Q))) := by
  rw [vc_q (o := (37, 0, 22, 2, [])) (by decide +kernel)]; rfl
theorem v_135_78 (xs : Option (List Int32)) (n : Nat) (b : Bool) (d : Nat) (ml : List Value) (t : T) (Q : Option Value → T → Prop) (u : Int32) (r : List Value) : vc xs zH_135 (n + 1) b d 135 78 ml (.int u :: r) t Q = (if u = 0 then vc xs zH_135 n true d 135 101 ml r t Q else vc xs zH_135 n true d 135 81 ml r t Q) := by
  rw [vc_q (o := (21, 0, 101, 0, [])) (by decide +kernel)]; rfl
theorem v_135_81 (xs : Option (List Int32)) (n : Nat) (b : Bool) (d : Nat) (ml : List Value) (t : T) (Q : Option Value → T → Prop) (st : List Value) : vc xs zH_135 (n + 1) b d 135 81 ml st t Q = vgi ml 2 (fun v => vc xs zH_135 n true d 135 82 ml (.int v :: st) t Q) := by
  rw [vc_q (o := (1, 0, 2, 0, [])) (by decide +kernel)]; rfl
theorem v_135_82 (xs : Option (List Int32)) (n : Nat) (b : Bool) (d : Nat) (ml : List Value) (t : T) (Q : Option Value → T → Prop) (st : List Value) : vc xs zH_135 (n + 1) b d 135 82 ml st t Q = vc xs zH_135 n true d 135 84 ml (.int 6 :: st) t Q := by
  rw [vc_q (o := (0, 6, 1, 0, [])) (by decide +kernel)]; rfl
theorem v_135_84 (xs : Option (List Int32)) (n : Nat) (b : Bool) (d : Nat) (ml : List Value) (t : T) (Q : Option Value → T → Prop) (u v : Int32) (r : List Value) : vc xs zH_135 (n + 1) b d 135 84 ml (.int v :: .int u :: r) t Q = (if u < v then vc xs zH_135 n true d 135 97 ml r t Q else vc xs zH_135 n true d 135 87 ml r t Q) := by
  rw [vc_q (o := (20, 0, 97, 2, [])) (by decide +kernel)]; rfl
theorem v_135_87 (xs : Option (List Int32)) (n : Nat) (b : Bool) (d : Nat) (ml : List Value) (t : T) (Q : Option Value → T → Prop) (st : List Value) : vc xs zH_135 (n + 1) b d 135 87 ml st t Q = vgi ml 4 (fun v => vc xs zH_135 n true d 135 89 ml (.int v :: st) t Q) := by
  rw [vc_q (o := (1, 0, 4, 1, [])) (by decide +kernel)]; rfl
theorem v_135_89 (xs : Option (List Int32)) (n : Nat) (b : Bool) (d : Nat) (ml : List Value) (t : T) (Q : Option Value → T → Prop) (st : List Value) : vc xs zH_135 (n + 1) b d 135 89 ml st t Q = vc xs zH_135 n true d 135 91 ml (.int 6 :: st) t Q := by
  rw [vc_q (o := (0, 6, 1, 0, [])) (by decide +kernel)]; rfl
theorem v_135_91 (xs : Option (List Int32)) (n : Nat) (b : Bool) (d : Nat) (ml : List Value) (t : T) (Q : Option Value → T → Prop) (st : List Value) : vc xs zH_135 (n + 1) b d 135 91 ml st t Q = (st.all zc1 = true ∧ vtk 2 st [] (fun as rest => rest.length ≤ 8 ∧ twc d 22 as t (fun r t' => vc xs zH_135 n true d 135 94 ml (r.toList ++ rest) t' Q))) := by
  rw [vc_q (o := (37, 0, 22, 2, [])) (by decide +kernel)]; rfl
theorem v_135_94 (xs : Option (List Int32)) (n : Nat) (b : Bool) (d : Nat) (ml : List Value) (t : T) (Q : Option Value → T → Prop) (u : Int32) (r : List Value) : vc xs zH_135 (n + 1) b d 135 94 ml (.int u :: r) t Q = (if u = 0 then vc xs zH_135 n true d 135 101 ml r t Q else vc xs zH_135 n true d 135 97 ml r t Q) := by
  rw [vc_q (o := (21, 0, 101, 0, [])) (by decide +kernel)]; rfl
theorem v_135_97 (xs : Option (List Int32)) (n : Nat) (b : Bool) (d : Nat) (ml : List Value) (t : T) (Q : Option Value → T → Prop) (st : List Value) : vc xs zH_135 (n + 1) b d 135 97 ml st t Q = vc xs zH_135 n true d 135 98 ml (.int 1 :: st) t Q := by
  rw [vc_q (o := (0, 1, 0, 0, [])) (by decide +kernel)]; rfl
theorem v_135_98 (xs : Option (List Int32)) (n : Nat) (b : Bool) (d : Nat) (ml : List Value) (t : T) (Q : Option Value → T → Prop) (st : List Value) : vc xs zH_135 (n + 1) b d 135 98 ml st t Q = vc xs zH_135 n true d 135 102 ml st t Q := by
  rw [vc_q (o := (22, 0, 102, 0, [])) (by decide +kernel)]; rfl
theorem v_135_101 (xs : Option (List Int32)) (n : Nat) (b : Bool) (d : Nat) (ml : List Value) (t : T) (Q : Option Value → T → Prop) (st : List Value) : vc xs zH_135 (n + 1) b d 135 101 ml st t Q = vc xs zH_135 n true d 135 102 ml (.int 0 :: st) t Q := by
  rw [vc_q (o := (0, 0, 0, 0, [])) (by decide +kernel)]; rfl
theorem v_135_102 (xs : Option (List Int32)) (n : Nat) (b : Bool) (d : Nat) (ml : List Value) (t : T) (Q : Option Value → T → Prop) (v : Int32) : vc xs zH_135 (n + 1) b d 135 102 ml [.int v] t Q = ((v = 0 ∨ v = 1) ∧ Q (some (.int v)) t) := by
  rw [vc_q (o := (41, 0, 0, 0, [])) (by decide +kernel)]; rfl
theorem v_135_103 (xs : Option (List Int32)) (n : Nat) (b : Bool) (d : Nat) (ml : List Value) (t : T) (Q : Option Value → T → Prop) (st : List Value) : vc xs zH_135 (n + 1) b d 135 103 ml st t Q = vgi ml 3 (fun v => vc xs zH_135 n true d 135 104 ml (.int v :: st) t Q) := by
  rw [vc_q (o := (1, 0, 3, 0, [])) (by decide +kernel)]; rfl
theorem v_135_104 (xs : Option (List Int32)) (n : Nat) (b : Bool) (d : Nat) (ml : List Value) (t : T) (Q : Option Value → T → Prop) (st : List Value) : vc xs zH_135 (n + 1) b d 135 104 ml st t Q = vc xs zH_135 n true d 135 106 ml (.int 6 :: st) t Q := by
  rw [vc_q (o := (0, 6, 1, 0, [])) (by decide +kernel)]; rfl
theorem v_135_106 (xs : Option (List Int32)) (n : Nat) (b : Bool) (d : Nat) (ml : List Value) (t : T) (Q : Option Value → T → Prop) (st : List Value) : vc xs zH_135 (n + 1) b d 135 106 ml st t Q = (st.all zc1 = true ∧ vtk 2 st [] (fun as rest => rest.length ≤ 8 ∧ twc d 22 as t (fun r t' => vc xs zH_135 n true d 135 109 ml (r.toList ++ rest) t' Q))) := by
  rw [vc_q (o := (37, 0, 22, 2, [])) (by decide +kernel)]; rfl
theorem v_135_109 (xs : Option (List Int32)) (n : Nat) (b : Bool) (d : Nat) (ml : List Value) (t : T) (Q : Option Value → T → Prop) (u : Int32) (r : List Value) : vc xs zH_135 (n + 1) b d 135 109 ml (.int u :: r) t Q = (if u = 0 then vc xs zH_135 n true d 135 126 ml r t Q else vc xs zH_135 n true d 135 112 ml r t Q) := by
  rw [vc_q (o := (21, 0, 126, 0, [])) (by decide +kernel)]; rfl
theorem v_135_112 (xs : Option (List Int32)) (n : Nat) (b : Bool) (d : Nat) (ml : List Value) (t : T) (Q : Option Value → T → Prop) (st : List Value) : vc xs zH_135 (n + 1) b d 135 112 ml st t Q = vgi ml 4 (fun v => vc xs zH_135 n true d 135 114 ml (.int v :: st) t Q) := by
  rw [vc_q (o := (1, 0, 4, 1, [])) (by decide +kernel)]; rfl
theorem v_135_114 (xs : Option (List Int32)) (n : Nat) (b : Bool) (d : Nat) (ml : List Value) (t : T) (Q : Option Value → T → Prop) (st : List Value) : vc xs zH_135 (n + 1) b d 135 114 ml st t Q = vc xs zH_135 n true d 135 116 ml (.int 6 :: st) t Q := by
  rw [vc_q (o := (0, 6, 1, 0, [])) (by decide +kernel)]; rfl
theorem v_135_116 (xs : Option (List Int32)) (n : Nat) (b : Bool) (d : Nat) (ml : List Value) (t : T) (Q : Option Value → T → Prop) (st : List Value) : vc xs zH_135 (n + 1) b d 135 116 ml st t Q = (st.all zc1 = true ∧ vtk 2 st [] (fun as rest => rest.length ≤ 8 ∧ twc d 22 as t (fun r t' => vc xs zH_135 n true d 135 119 ml (r.toList ++ rest) t' Q))) := by
  rw [vc_q (o := (37, 0, 22, 2, [])) (by decide +kernel)]; rfl
theorem v_135_119 (xs : Option (List Int32)) (n : Nat) (b : Bool) (d : Nat) (ml : List Value) (t : T) (Q : Option Value → T → Prop) (u : Int32) (r : List Value) : vc xs zH_135 (n + 1) b d 135 119 ml (.int u :: r) t Q = (if u = 0 then vc xs zH_135 n true d 135 126 ml r t Q else vc xs zH_135 n true d 135 122 ml r t Q) := by
  rw [vc_q (o := (21, 0, 126, 0, [])) (by decide +kernel)]; rfl
theorem v_135_122 (xs : Option (List Int32)) (n : Nat) (b : Bool) (d : Nat) (ml : List Value) (t : T) (Q : Option Value → T → Prop) (st : List Value) : vc xs zH_135 (n + 1) b d 135 122 ml st t Q = vc xs zH_135 n true d 135 123 ml (.int 1 :: st) t Q := by
  rw [vc_q (o := (0, 1, 0, 0, [])) (by decide +kernel)]; rfl
theorem v_135_123 (xs : Option (List Int32)) (n : Nat) (b : Bool) (d : Nat) (ml : List Value) (t : T) (Q : Option Value → T → Prop) (st : List Value) : vc xs zH_135 (n + 1) b d 135 123 ml st t Q = vc xs zH_135 n true d 135 127 ml st t Q := by
  rw [vc_q (o := (22, 0, 127, 0, [])) (by decide +kernel)]; rfl
theorem v_135_126 (xs : Option (List Int32)) (n : Nat) (b : Bool) (d : Nat) (ml : List Value) (t : T) (Q : Option Value → T → Prop) (st : List Value) : vc xs zH_135 (n + 1) b d 135 126 ml st t Q = vc xs zH_135 n true d 135 127 ml (.int 0 :: st) t Q := by
  rw [vc_q (o := (0, 0, 0, 0, [])) (by decide +kernel)]; rfl
theorem v_135_127 (xs : Option (List Int32)) (n : Nat) (b : Bool) (d : Nat) (ml : List Value) (t : T) (Q : Option Value → T → Prop) (v : Int32) : vc xs zH_135 (n + 1) b d 135 127 ml [.int v] t Q = ((v = 0 ∨ v = 1) ∧ Q (some (.int v)) t) := by
  rw [vc_q (o := (41, 0, 0, 0, [])) (by decide +kernel)]; rfl
theorem v_135_128 (xs : Option (List Int32)) (n : Nat) (b : Bool) (d : Nat) (ml : List Value) (t : T) (Q : Option Value → T → Prop) (st : List Value) : vc xs zH_135 (n + 1) b d 135 128 ml st t Q = vga ml 0 (fun v => vc xs zH_135 n true d 135 129 ml (.ref v :: st) t Q) := by
  rw [vc_q (o := (2, 0, 0, 0, [])) (by decide +kernel)]; rfl
theorem v_135_129 (xs : Option (List Int32)) (n : Nat) (b : Bool) (d : Nat) (ml : List Value) (t : T) (Q : Option Value → T → Prop) (st : List Value) : vc xs zH_135 (n + 1) b d 135 129 ml st t Q = vgi ml 4 (fun v => vc xs zH_135 n true d 135 131 ml (.int v :: st) t Q) := by
  rw [vc_q (o := (1, 0, 4, 1, [])) (by decide +kernel)]; rfl
theorem v_135_131 (xs : Option (List Int32)) (n : Nat) (b : Bool) (d : Nat) (ml : List Value) (t : T) (Q : Option Value → T → Prop) (st : List Value) : vc xs zH_135 (n + 1) b d 135 131 ml st t Q = (st.all zc1 = true ∧ vtk 2 st [] (fun as rest => rest.length ≤ 8 ∧ vrc as 1 (twc d 136 as t (fun r t' => vc xs zH_135 n true d 135 134 ml (r.toList ++ rest) t' Q)))) := by
  rw [vc_q (o := (36, 0, 136, 1, [(0, 1)])) (by decide +kernel)]; rfl
theorem v_135_134 (xs : Option (List Int32)) (n : Nat) (b : Bool) (d : Nat) (ml : List Value) (t : T) (Q : Option Value → T → Prop) (v : Int32) : vc xs zH_135 (n + 1) b d 135 134 ml [.int v] t Q = ((v = 0 ∨ v = 1) ∧ Q (some (.int v)) t) := by
  rw [vc_q (o := (41, 0, 0, 0, [])) (by decide +kernel)]; rfl
theorem v_135_135 (xs : Option (List Int32)) (n : Nat) (b : Bool) (d : Nat) (ml : List Value) (t : T) (Q : Option Value → T → Prop) (st : List Value) : vc xs zH_135 (n + 1) b d 135 135 ml st t Q = vga ml 0 (fun v => vc xs zH_135 n true d 135 136 ml (.ref v :: st) t Q) := by
  rw [vc_q (o := (2, 0, 0, 0, [])) (by decide +kernel)]; rfl
theorem v_135_136 (xs : Option (List Int32)) (n : Nat) (b : Bool) (d : Nat) (ml : List Value) (t : T) (Q : Option Value → T → Prop) (st : List Value) : vc xs zH_135 (n + 1) b d 135 136 ml st t Q = vgi ml 4 (fun v => vc xs zH_135 n true d 135 138 ml (.int v :: st) t Q) := by
  rw [vc_q (o := (1, 0, 4, 1, [])) (by decide +kernel)]; rfl
theorem v_135_138 (xs : Option (List Int32)) (n : Nat) (b : Bool) (d : Nat) (ml : List Value) (t : T) (Q : Option Value → T → Prop) (st : List Value) : vc xs zH_135 (n + 1) b d 135 138 ml st t Q = (st.all zc1 = true ∧ vtk 2 st [] (fun as rest => rest.length ≤ 8 ∧ vrc as 1 (twc d 136 as t (fun r t' => vc xs zH_135 n true d 135 141 ml (r.toList ++ rest) t' Q)))) := by
  rw [vc_q (o := (36, 0, 136, 1, [(0, 1)])) (by decide +kernel)]; rfl
theorem v_135_141 (xs : Option (List Int32)) (n : Nat) (b : Bool) (d : Nat) (ml : List Value) (t : T) (Q : Option Value → T → Prop) (u : Int32) (r : List Value) : vc xs zH_135 (n + 1) b d 135 141 ml (.int u :: r) t Q = (if u = 0 then vc xs zH_135 n true d 135 157 ml r t Q else vc xs zH_135 n true d 135 144 ml r t Q) := by
  rw [vc_q (o := (21, 0, 157, 0, [])) (by decide +kernel)]; rfl
theorem v_135_144 (xs : Option (List Int32)) (n : Nat) (b : Bool) (d : Nat) (ml : List Value) (t : T) (Q : Option Value → T → Prop) (st : List Value) : vc xs zH_135 (n + 1) b d 135 144 ml st t Q = vga ml 0 (fun v => vc xs zH_135 n true d 135 145 ml (.ref v :: st) t Q) := by
  rw [vc_q (o := (2, 0, 0, 0, [])) (by decide +kernel)]; rfl
theorem v_135_145 (xs : Option (List Int32)) (n : Nat) (b : Bool) (d : Nat) (ml : List Value) (t : T) (Q : Option Value → T → Prop) (st : List Value) : vc xs zH_135 (n + 1) b d 135 145 ml st t Q = vgi ml 5 (fun v => vc xs zH_135 n true d 135 147 ml (.int v :: st) t Q) := by
  rw [vc_q (o := (1, 0, 5, 1, [])) (by decide +kernel)]; rfl
theorem v_135_147 (xs : Option (List Int32)) (n : Nat) (b : Bool) (d : Nat) (ml : List Value) (t : T) (Q : Option Value → T → Prop) (st : List Value) : vc xs zH_135 (n + 1) b d 135 147 ml st t Q = (st.all zc1 = true ∧ vtk 2 st [] (fun as rest => rest.length ≤ 8 ∧ vrc as 1 (twc d 136 as t (fun r t' => vc xs zH_135 n true d 135 150 ml (r.toList ++ rest) t' Q)))) := by
  rw [vc_q (o := (36, 0, 136, 1, [(0, 1)])) (by decide +kernel)]; rfl
theorem v_135_150 (xs : Option (List Int32)) (n : Nat) (b : Bool) (d : Nat) (ml : List Value) (t : T) (Q : Option Value → T → Prop) (u : Int32) (r : List Value) : vc xs zH_135 (n + 1) b d 135 150 ml (.int u :: r) t Q = (if u = 0 then vc xs zH_135 n true d 135 157 ml r t Q else vc xs zH_135 n true d 135 153 ml r t Q) := by
  rw [vc_q (o := (21, 0, 157, 0, [])) (by decide +kernel)]; rfl
theorem v_135_153 (xs : Option (List Int32)) (n : Nat) (b : Bool) (d : Nat) (ml : List Value) (t : T) (Q : Option Value → T → Prop) (st : List Value) : vc xs zH_135 (n + 1) b d 135 153 ml st t Q = vc xs zH_135 n true d 135 154 ml (.int 1 :: st) t Q := by
  rw [vc_q (o := (0, 1, 0, 0, [])) (by decide +kernel)]; rfl
theorem v_135_154 (xs : Option (List Int32)) (n : Nat) (b : Bool) (d : Nat) (ml : List Value) (t : T) (Q : Option Value → T → Prop) (st : List Value) : vc xs zH_135 (n + 1) b d 135 154 ml st t Q = vc xs zH_135 n true d 135 158 ml st t Q := by
  rw [vc_q (o := (22, 0, 158, 0, [])) (by decide +kernel)]; rfl
theorem v_135_157 (xs : Option (List Int32)) (n : Nat) (b : Bool) (d : Nat) (ml : List Value) (t : T) (Q : Option Value → T → Prop) (st : List Value) : vc xs zH_135 (n + 1) b d 135 157 ml st t Q = vc xs zH_135 n true d 135 158 ml (.int 0 :: st) t Q := by
  rw [vc_q (o := (0, 0, 0, 0, [])) (by decide +kernel)]; rfl
theorem v_135_158 (xs : Option (List Int32)) (n : Nat) (b : Bool) (d : Nat) (ml : List Value) (t : T) (Q : Option Value → T → Prop) (v : Int32) : vc xs zH_135 (n + 1) b d 135 158 ml [.int v] t Q = ((v = 0 ∨ v = 1) ∧ Q (some (.int v)) t) := by
  rw [vc_q (o := (41, 0, 0, 0, [])) (by decide +kernel)]; rfl
theorem v_135_159 (xs : Option (List Int32)) (n : Nat) (b : Bool) (d : Nat) (ml : List Value) (t : T) (Q : Option Value → T → Prop) (st : List Value) : vc xs zH_135 (n + 1) b d 135 159 ml st t Q = vgi ml 2 (fun v => vc xs zH_135 n true d 135 160 ml (.int v :: st) t Q) := by
  rw [vc_q (o := (1, 0, 2, 0, [])) (by decide +kernel)]; rfl
theorem v_135_160 (xs : Option (List Int32)) (n : Nat) (b : Bool) (d : Nat) (ml : List Value) (t : T) (Q : Option Value → T → Prop) (st : List Value) : vc xs zH_135 (n + 1) b d 135 160 ml st t Q = vc xs zH_135 n true d 135 162 ml (.int 6 :: st) t Q := by
  rw [vc_q (o := (0, 6, 1, 0, [])) (by decide +kernel)]; rfl
theorem v_135_162 (xs : Option (List Int32)) (n : Nat) (b : Bool) (d : Nat) (ml : List Value) (t : T) (Q : Option Value → T → Prop) (st : List Value) : vc xs zH_135 (n + 1) b d 135 162 ml st t Q = (st.all zc1 = true ∧ vtk 2 st [] (fun as rest => rest.length ≤ 8 ∧ twc d 22 as t (fun r t' => vc xs zH_135 n true d 135 165 ml (r.toList ++ rest) t' Q))) := by
  rw [vc_q (o := (37, 0, 22, 2, [])) (by decide +kernel)]; rfl
theorem v_135_165 (xs : Option (List Int32)) (n : Nat) (b : Bool) (d : Nat) (ml : List Value) (t : T) (Q : Option Value → T → Prop) (u : Int32) (r : List Value) : vc xs zH_135 (n + 1) b d 135 165 ml (.int u :: r) t Q = (if u = 0 then vc xs zH_135 n true d 135 181 ml r t Q else vc xs zH_135 n true d 135 168 ml r t Q) := by
  rw [vc_q (o := (21, 0, 181, 0, [])) (by decide +kernel)]; rfl
theorem v_135_168 (xs : Option (List Int32)) (n : Nat) (b : Bool) (d : Nat) (ml : List Value) (t : T) (Q : Option Value → T → Prop) (st : List Value) : vc xs zH_135 (n + 1) b d 135 168 ml st t Q = vga ml 0 (fun v => vc xs zH_135 n true d 135 169 ml (.ref v :: st) t Q) := by
  rw [vc_q (o := (2, 0, 0, 0, [])) (by decide +kernel)]; rfl
theorem v_135_169 (xs : Option (List Int32)) (n : Nat) (b : Bool) (d : Nat) (ml : List Value) (t : T) (Q : Option Value → T → Prop) (st : List Value) : vc xs zH_135 (n + 1) b d 135 169 ml st t Q = vgi ml 4 (fun v => vc xs zH_135 n true d 135 171 ml (.int v :: st) t Q) := by
  rw [vc_q (o := (1, 0, 4, 1, [])) (by decide +kernel)]; rfl
theorem v_135_171 (xs : Option (List Int32)) (n : Nat) (b : Bool) (d : Nat) (ml : List Value) (t : T) (Q : Option Value → T → Prop) (st : List Value) : vc xs zH_135 (n + 1) b d 135 171 ml st t Q = (st.all zc1 = true ∧ vtk 2 st [] (fun as rest => rest.length ≤ 8 ∧ vrc as 1 (twc d 136 as t (fun r t' => vc xs zH_135 n true d 135 174 ml (r.toList ++ rest) t' Q)))) := by
  rw [vc_q (o := (36, 0, 136, 1, [(0, 1)])) (by decide +kernel)]; rfl
theorem v_135_174 (xs : Option (List Int32)) (n : Nat) (b : Bool) (d : Nat) (ml : List Value) (t : T) (Q : Option Value → T → Prop) (u : Int32) (r : List Value) : vc xs zH_135 (n + 1) b d 135 174 ml (.int u :: r) t Q = (if u = 0 then vc xs zH_135 n true d 135 181 ml r t Q else vc xs zH_135 n true d 135 177 ml r t Q) := by
  rw [vc_q (o := (21, 0, 181, 0, [])) (by decide +kernel)]; rfl
theorem v_135_177 (xs : Option (List Int32)) (n : Nat) (b : Bool) (d : Nat) (ml : List Value) (t : T) (Q : Option Value → T → Prop) (st : List Value) : vc xs zH_135 (n + 1) b d 135 177 ml st t Q = vc xs zH_135 n true d 135 178 ml (.int 1 :: st) t Q := by
  rw [vc_q (o := (0, 1, 0, 0, [])) (by decide +kernel)]; rfl
theorem v_135_178 (xs : Option (List Int32)) (n : Nat) (b : Bool) (d : Nat) (ml : List Value) (t : T) (Q : Option Value → T → Prop) (st : List Value) : vc xs zH_135 (n + 1) b d 135 178 ml st t Q = vc xs zH_135 n true d 135 182 ml st t Q := by
  rw [vc_q (o := (22, 0, 182, 0, [])) (by decide +kernel)]; rfl
theorem v_135_181 (xs : Option (List Int32)) (n : Nat) (b : Bool) (d : Nat) (ml : List Value) (t : T) (Q : Option Value → T → Prop) (st : List Value) : vc xs zH_135 (n + 1) b d 135 181 ml st t Q = vc xs zH_135 n true d 135 182 ml (.int 0 :: st) t Q := by
  rw [vc_q (o := (0, 0, 0, 0, [])) (by decide +kernel)]; rfl
theorem v_135_182 (xs : Option (List Int32)) (n : Nat) (b : Bool) (d : Nat) (ml : List Value) (t : T) (Q : Option Value → T → Prop) (v : Int32) : vc xs zH_135 (n + 1) b d 135 182 ml [.int v] t Q = ((v = 0 ∨ v = 1) ∧ Q (some (.int v)) t) := by
  rw [vc_q (o := (41, 0, 0, 0, [])) (by decide +kernel)]; rfl
theorem v_135_183 (xs : Option (List Int32)) (n : Nat) (b : Bool) (d : Nat) (ml : List Value) (t : T) (Q : Option Value → T → Prop) (st : List Value) : vc xs zH_135 (n + 1) b d 135 183 ml st t Q = vgi ml 2 (fun v => vc xs zH_135 n true d 135 184 ml (.int v :: st) t Q) := by
  rw [vc_q (o := (1, 0, 2, 0, [])) (by decide +kernel)]; rfl
theorem v_135_184 (xs : Option (List Int32)) (n : Nat) (b : Bool) (d : Nat) (ml : List Value) (t : T) (Q : Option Value → T → Prop) (st : List Value) : vc xs zH_135 (n + 1) b d 135 184 ml st t Q = vc xs zH_135 n true d 135 186 ml (.int 6 :: st) t Q := by
  rw [vc_q (o := (0, 6, 1, 0, [])) (by decide +kernel)]; rfl
theorem v_135_186 (xs : Option (List Int32)) (n : Nat) (b : Bool) (d : Nat) (ml : List Value) (t : T) (Q : Option Value → T → Prop) (st : List Value) : vc xs zH_135 (n + 1) b d 135 186 ml st t Q = (st.all zc1 = true ∧ vtk 2 st [] (fun as rest => rest.length ≤ 8 ∧ twc d 22 as t (fun r t' => vc xs zH_135 n true d 135 189 ml (r.toList ++ rest) t' Q))) := by
  rw [vc_q (o := (37, 0, 22, 2, [])) (by decide +kernel)]; rfl
theorem v_135_189 (xs : Option (List Int32)) (n : Nat) (b : Bool) (d : Nat) (ml : List Value) (t : T) (Q : Option Value → T → Prop) (u : Int32) (r : List Value) : vc xs zH_135 (n + 1) b d 135 189 ml (.int u :: r) t Q = (if u = 0 then vc xs zH_135 n true d 135 227 ml r t Q else vc xs zH_135 n true d 135 192 ml r t Q) := by
  rw [vc_q (o := (21, 0, 227, 0, [])) (by decide +kernel)]; rfl
theorem v_135_192 (xs : Option (List Int32)) (n : Nat) (b : Bool) (d : Nat) (ml : List Value) (t : T) (Q : Option Value → T → Prop) (st : List Value) : vc xs zH_135 (n + 1) b d 135 192 ml st t Q = vgi ml 3 (fun v => vc xs zH_135 n true d 135 193 ml (.int v :: st) t Q) := by
  rw [vc_q (o := (1, 0, 3, 0, [])) (by decide +kernel)]; rfl
theorem v_135_193 (xs : Option (List Int32)) (n : Nat) (b : Bool) (d : Nat) (ml : List Value) (t : T) (Q : Option Value → T → Prop) (st : List Value) : vc xs zH_135 (n + 1) b d 135 193 ml st t Q = vc xs zH_135 n true d 135 195 ml (.int 6 :: st) t Q := by
  rw [vc_q (o := (0, 6, 1, 0, [])) (by decide +kernel)]; rfl
theorem v_135_195 (xs : Option (List Int32)) (n : Nat) (b : Bool) (d : Nat) (ml : List Value) (t : T) (Q : Option Value → T → Prop) (st : List Value) : vc xs zH_135 (n + 1) b d 135 195 ml st t Q = (st.all zc1 = true ∧ vtk 2 st [] (fun as rest => rest.length ≤ 8 ∧ twc d 22 as t (fun r t' => vc xs zH_135 n true d 135 198 ml (r.toList ++ rest) t' Q))) := by
  rw [vc_q (o := (37, 0, 22, 2, [])) (by decide +kernel)]; rfl
theorem v_135_198 (xs : Option (List Int32)) (n : Nat) (b : Bool) (d : Nat) (ml : List Value) (t : T) (Q : Option Value → T → Prop) (u : Int32) (r : List Value) : vc xs zH_135 (n + 1) b d 135 198 ml (.int u :: r) t Q = (if u = 0 then vc xs zH_135 n true d 135 227 ml r t Q else vc xs zH_135 n true d 135 201 ml r t Q) := by
  rw [vc_q (o := (21, 0, 227, 0, [])) (by decide +kernel)]; rfl
theorem v_135_201 (xs : Option (List Int32)) (n : Nat) (b : Bool) (d : Nat) (ml : List Value) (t : T) (Q : Option Value → T → Prop) (st : List Value) : vc xs zH_135 (n + 1) b d 135 201 ml st t Q = vga ml 0 (fun v => vc xs zH_135 n true d 135 202 ml (.ref v :: st) t Q) := by
  rw [vc_q (o := (2, 0, 0, 0, [])) (by decide +kernel)]; rfl
theorem v_135_202 (xs : Option (List Int32)) (n : Nat) (b : Bool) (d : Nat) (ml : List Value) (t : T) (Q : Option Value → T → Prop) (st : List Value) : vc xs zH_135 (n + 1) b d 135 202 ml st t Q = vgi ml 4 (fun v => vc xs zH_135 n true d 135 204 ml (.int v :: st) t Q) := by
  rw [vc_q (o := (1, 0, 4, 1, [])) (by decide +kernel)]; rfl
theorem v_135_204 (xs : Option (List Int32)) (n : Nat) (b : Bool) (d : Nat) (ml : List Value) (t : T) (Q : Option Value → T → Prop) (st : List Value) : vc xs zH_135 (n + 1) b d 135 204 ml st t Q = (st.all zc1 = true ∧ vtk 2 st [] (fun as rest => rest.length ≤ 8 ∧ vrc as 1 (twc d 136 as t (fun r t' => vc xs zH_135 n true d 135 207 ml (r.toList ++ rest) t' Q)))) := by
  rw [vc_q (o := (36, 0, 136, 1, [(0, 1)])) (by decide +kernel)]; rfl
theorem v_135_207 (xs : Option (List Int32)) (n : Nat) (b : Bool) (d : Nat) (ml : List Value) (t : T) (Q : Option Value → T → Prop) (u : Int32) (r : List Value) : vc xs zH_135 (n + 1) b d 135 207 ml (.int u :: r) t Q = (if u = 0 then vc xs zH_135 n true d 135 227 ml r t Q else vc xs zH_135 n true d 135 210 ml r t Q) := by
  rw [vc_q (o := (21, 0, 227, 0, [])) (by decide +kernel)]; rfl
theorem v_135_210 (xs : Option (List Int32)) (n : Nat) (b : Bool) (d : Nat) (ml : List Value) (t : T) (Q : Option Value → T → Prop) (st : List Value) : vc xs zH_135 (n + 1) b d 135 210 ml st t Q = vga ml 0 (fun v => vc xs zH_135 n true d 135 211 ml (.ref v :: st) t Q) := by
  rw [vc_q (o := (2, 0, 0, 0, [])) (by decide +kernel)]; rfl
theorem v_135_211 (xs : Option (List Int32)) (n : Nat) (b : Bool) (d : Nat) (ml : List Value) (t : T) (Q : Option Value → T → Prop) (u : Nat) (r : List Value) : vc xs zH_135 (n + 1) b d 135 211 ml (.ref u :: r) t Q = (vtag u = 1 ∧ vc xs zH_135 n true d 135 214 ml (.ref (tref t u 0) :: r) t Q) := by
  rw [vc_q (o := (25, 0, 1, 0, [])) (by decide +kernel)]; rfl
theorem v_135_214 (xs : Option (List Int32)) (n : Nat) (b : Bool) (d : Nat) (ml : List Value) (t : T) (Q : Option Value → T → Prop) (st : List Value) : vc xs zH_135 (n + 1) b d 135 214 ml st t Q = vgi ml 4 (fun v => vc xs zH_135 n true d 135 216 ml (.int v :: st) t Q) := by
  rw [vc_q (o := (1, 0, 4, 1, [])) (by decide +kernel)]; rfl
theorem v_135_216 (xs : Option (List Int32)) (n : Nat) (b : Bool) (d : Nat) (ml : List Value) (t : T) (Q : Option Value → T → Prop) (v : Int32) (u : Nat) (r : List Value) : vc xs zH_135 (n + 1) b d 135 216 ml (.int v :: .ref u :: r) t Q = (103 ≤ vtag u ∧ vtag u < 108 ∧ vinb v (vlen u) ∧ vc xs zH_135 n true d 135 217 ml (.ref (tref t u v.toNatClampNeg) :: r) t Q) := by
  rw [vc_q (o := (31, 0, 0, 0, [])) (by decide +kernel)]; rfl
theorem v_135_217 (xs : Option (List Int32)) (n : Nat) (b : Bool) (d : Nat) (ml : List Value) (t : T) (Q : Option Value → T → Prop) (u : Nat) (r : List Value) : vc xs zH_135 (n + 1) b d 135 217 ml (.ref u :: r) t Q = (vtag u = 2 ∧ vc xs zH_135 n true d 135 220 ml (.int (t.1 u 7) :: r) t Q) := by
  rw [vc_q (o := (24, 0, 2, 7, [])) (by decide +kernel)]; rfl
theorem v_135_220 (xs : Option (List Int32)) (n : Nat) (b : Bool) (d : Nat) (ml : List Value) (t : T) (Q : Option Value → T → Prop) (u : Int32) (r : List Value) : vc xs zH_135 (n + 1) b d 135 220 ml (.int u :: r) t Q = (if u = 0 then vc xs zH_135 n true d 135 223 ml r t Q else vc xs zH_135 n true d 135 227 ml r t Q) := by
  rw [vc_q (o := (21, 0, 227, 1, [])) (by decide +kernel)]; rfl
theorem v_135_223 (xs : Option (List Int32)) (n : Nat) (b : Bool) (d : Nat) (ml : List Value) (t : T) (Q : Option Value → T → Prop) (st : List Value) : vc xs zH_135 (n + 1) b d 135 223 ml st t Q = vc xs zH_135 n true d 135 224 ml (.int 1 :: st) t Q := by
  rw [vc_q (o := (0, 1, 0, 0, [])) (by decide +kernel)]; rfl
theorem v_135_224 (xs : Option (List Int32)) (n : Nat) (b : Bool) (d : Nat) (ml : List Value) (t : T) (Q : Option Value → T → Prop) (st : List Value) : vc xs zH_135 (n + 1) b d 135 224 ml st t Q = vc xs zH_135 n true d 135 228 ml st t Q := by
  rw [vc_q (o := (22, 0, 228, 0, [])) (by decide +kernel)]; rfl
theorem v_135_227 (xs : Option (List Int32)) (n : Nat) (b : Bool) (d : Nat) (ml : List Value) (t : T) (Q : Option Value → T → Prop) (st : List Value) : vc xs zH_135 (n + 1) b d 135 227 ml st t Q = vc xs zH_135 n true d 135 228 ml (.int 0 :: st) t Q := by
  rw [vc_q (o := (0, 0, 0, 0, [])) (by decide +kernel)]; rfl
theorem v_135_228 (xs : Option (List Int32)) (n : Nat) (b : Bool) (d : Nat) (ml : List Value) (t : T) (Q : Option Value → T → Prop) (v : Int32) : vc xs zH_135 (n + 1) b d 135 228 ml [.int v] t Q = ((v = 0 ∨ v = 1) ∧ Q (some (.int v)) t) := by
  rw [vc_q (o := (41, 0, 0, 0, [])) (by decide +kernel)]; rfl
theorem v_135_229 (xs : Option (List Int32)) (n : Nat) (b : Bool) (d : Nat) (ml : List Value) (t : T) (Q : Option Value → T → Prop) (st : List Value) : vc xs zH_135 (n + 1) b d 135 229 ml st t Q = vc xs zH_135 n true d 135 230 ml (.int 0 :: st) t Q := by
  rw [vc_q (o := (0, 0, 0, 0, [])) (by decide +kernel)]; rfl
theorem v_135_230 (xs : Option (List Int32)) (n : Nat) (b : Bool) (d : Nat) (ml : List Value) (t : T) (Q : Option Value → T → Prop) (v : Int32) : vc xs zH_135 (n + 1) b d 135 230 ml [.int v] t Q = ((v = 0 ∨ v = 1) ∧ Q (some (.int v)) t) := by
  rw [vc_q (o := (41, 0, 0, 0, [])) (by decide +kernel)]; rfl
def zH_136 : List Nat := []
theorem v_136_0 (xs : Option (List Int32)) (n : Nat) (b : Bool) (d : Nat) (ml : List Value) (t : T) (Q : Option Value → T → Prop) (st : List Value) : vc xs zH_136 (n + 1) b d 136 0 ml st t Q = vgi ml 1 (fun v => vc xs zH_136 n true d 136 1 ml (.int v :: st) t Q) := by
  rw [vc_q (o := (1, 0, 1, 0, [])) (by decide +kernel)]; rfl
theorem v_136_1 (xs : Option (List Int32)) (n : Nat) (b : Bool) (d : Nat) (ml : List Value) (t : T) (Q : Option Value → T → Prop) (st : List Value) : vc xs zH_136 (n + 1) b d 136 1 ml st t Q = vga ml 0 (fun v => vc xs zH_136 n true d 136 2 ml (.ref v :: st) t Q) := by
  rw [vc_q (o := (2, 0, 0, 0, [])) (by decide +kernel)]; rfl
theorem v_136_2 (xs : Option (List Int32)) (n : Nat) (b : Bool) (d : Nat) (ml : List Value) (t : T) (Q : Option Value → T → Prop) (u : Nat) (r : List Value) : vc xs zH_136 (n + 1) b d 136 2 ml (.ref u :: r) t Q = (vtag u = 1 ∧ vc xs zH_136 n true d 136 5 ml (.int (t.1 u 1) :: r) t Q) := by
  rw [vc_q (o := (24, 0, 1, 1, [])) (by decide +kernel)]; rfl
theorem v_136_5 (xs : Option (List Int32)) (n : Nat) (b : Bool) (d : Nat) (ml : List Value) (t : T) (Q : Option Value → T → Prop) (st : List Value) : vc xs zH_136 (n + 1) b d 136 5 ml st t Q = (st.all zc1 = true ∧ vtk 2 st [] (fun as rest => rest.length ≤ 8 ∧ twc d 22 as t (fun r t' => vc xs zH_136 n true d 136 8 ml (r.toList ++ rest) t' Q))) := by
  rw [vc_q (o := (37, 0, 22, 2, [])) (by decide +kernel)]; rfl
theorem v_136_8 (xs : Option (List Int32)) (n : Nat) (b : Bool) (d : Nat) (ml : List Value) (t : T) (Q : Option Value → T → Prop) (u : Int32) (r : List Value) : vc xs zH_136 (n + 1) b d 136 8 ml (.int u :: r) t Q = (if u = 0 then vc xs zH_136 n true d 136 28 ml r t Q else vc xs zH_136 n true d 136 11 ml r t Q) := by
  rw [vc_q (o := (21, 0, 28, 0, [])) (by decide +kernel)]; rfl
theorem v_136_11 (xs : Option (List Int32)) (n : Nat) (b : Bool) (d : Nat) (ml : List Value) (t : T) (Q : Option Value → T → Prop) (st : List Value) : vc xs zH_136 (n + 1) b d 136 11 ml st t Q = vga ml 0 (fun v => vc xs zH_136 n true d 136 12 ml (.ref v :: st) t Q) := by
  rw [vc_q (o := (2, 0, 0, 0, [])) (by decide +kernel)]; rfl
theorem v_136_12 (xs : Option (List Int32)) (n : Nat) (b : Bool) (d : Nat) (ml : List Value) (t : T) (Q : Option Value → T → Prop) (u : Nat) (r : List Value) : vc xs zH_136 (n + 1) b d 136 12 ml (.ref u :: r) t Q = (vtag u = 1 ∧ vc xs zH_136 n true d 136 15 ml (.ref (tref t u 0) :: r) t Q) := by
  rw [vc_q (o := (25, 0, 1, 0, [])) (by decide +kernel)]; rfl
theorem v_136_15 (xs : Option (List Int32)) (n : Nat) (b : Bool) (d : Nat) (ml : List Value) (t : T) (Q : Option Value → T → Prop) (st : List Value) : vc xs zH_136 (n + 1) b d 136 15 ml st t Q = vgi ml 1 (fun v => vc xs zH_136 n true d 136 16 ml (.int v :: st) t Q) := by
  rw [vc_q (o := (1, 0, 1, 0, [])) (by decide +kernel)]; rfl
theorem v_136_16 (xs : Option (List Int32)) (n : Nat) (b : Bool) (d : Nat) (ml : List Value) (t : T) (Q : Option Value → T → Prop) (v : Int32) (u : Nat) (r : List Value) : vc xs zH_136 (n + 1) b d 136 16 ml (.int v :: .ref u :: r) t Q = (103 ≤ vtag u ∧ vtag u < 108 ∧ vinb v (vlen u) ∧ vc xs zH_136 n true d 136 17 ml (.ref (tref t u v.toNatClampNeg) :: r) t Q) := by
  rw [vc_q (o := (31, 0, 0, 0, [])) (by decide +kernel)]; rfl
theorem v_136_17 (xs : Option (List Int32)) (n : Nat) (b : Bool) (d : Nat) (ml : List Value) (t : T) (Q : Option Value → T → Prop) (u : Nat) (r : List Value) : vc xs zH_136 (n + 1) b d 136 17 ml (.ref u :: r) t Q = (vtag u = 2 ∧ vc xs zH_136 n true d 136 20 ml (.int (t.1 u 5) :: r) t Q) := by
  rw [vc_q (o := (24, 0, 2, 5, [])) (by decide +kernel)]; rfl
theorem v_136_20 (xs : Option (List Int32)) (n : Nat) (b : Bool) (d : Nat) (ml : List Value) (t : T) (Q : Option Value → T → Prop) (st : List Value) : vc xs zH_136 (n + 1) b d 136 20 ml st t Q = vc xs zH_136 n true d 136 21 ml (.int 4 :: st) t Q := by
  rw [vc_q (o := (0, 4, 0, 0, [])) (by decide +kernel)]; rfl
theorem v_136_21 (xs : Option (List Int32)) (n : Nat) (b : Bool) (d : Nat) (ml : List Value) (t : T) (Q : Option Value → T → Prop) (u v : Int32) (r : List Value) : vc xs zH_136 (n + 1) b d 136 21 ml (.int v :: .int u :: r) t Q = (if u < v then vc xs zH_136 n true d 136 24 ml r t Q else vc xs zH_136 n true d 136 28 ml r t Q) := by
  rw [vc_q (o := (20, 0, 28, 3, [])) (by decide +kernel)]; rfl
theorem v_136_24 (xs : Option (List Int32)) (n : Nat) (b : Bool) (d : Nat) (ml : List Value) (t : T) (Q : Option Value → T → Prop) (st : List Value) : vc xs zH_136 (n + 1) b d 136 24 ml st t Q = vc xs zH_136 n true d 136 25 ml (.int 1 :: st) t Q := by
  rw [vc_q (o := (0, 1, 0, 0, [])) (by decide +kernel)]; rfl
theorem v_136_25 (xs : Option (List Int32)) (n : Nat) (b : Bool) (d : Nat) (ml : List Value) (t : T) (Q : Option Value → T → Prop) (st : List Value) : vc xs zH_136 (n + 1) b d 136 25 ml st t Q = vc xs zH_136 n true d 136 29 ml st t Q := by
  rw [vc_q (o := (22, 0, 29, 0, [])) (by decide +kernel)]; rfl
theorem v_136_28 (xs : Option (List Int32)) (n : Nat) (b : Bool) (d : Nat) (ml : List Value) (t : T) (Q : Option Value → T → Prop) (st : List Value) : vc xs zH_136 (n + 1) b d 136 28 ml st t Q = vc xs zH_136 n true d 136 29 ml (.int 0 :: st) t Q := by
  rw [vc_q (o := (0, 0, 0, 0, [])) (by decide +kernel)]; rfl
theorem v_136_29 (xs : Option (List Int32)) (n : Nat) (b : Bool) (d : Nat) (ml : List Value) (t : T) (Q : Option Value → T → Prop) (v : Int32) : vc xs zH_136 (n + 1) b d 136 29 ml [.int v] t Q = ((v = 0 ∨ v = 1) ∧ Q (some (.int v)) t) := by
  rw [vc_q (o := (41, 0, 0, 0, [])) (by decide +kernel)]; rfl
def zH_137 : List Nat := [40, 62, 96]
theorem v_137_0 (xs : Option (List Int32)) (n : Nat) (b : Bool) (d : Nat) (ml : List Value) (t : T) (Q : Option Value → T → Prop) (st : List Value) : vc xs zH_137 (n + 1) b d 137 0 ml st t Q = vga ml 0 (fun v => vc xs zH_137 n true d 137 1 ml (.ref v :: st) t Q) := by
  rw [vc_q (o := (2, 0, 0, 0, [])) (by decide +kernel)]; rfl
theorem v_137_1 (xs : Option (List Int32)) (n : Nat) (b : Bool) (d : Nat) (ml : List Value) (t : T) (Q : Option Value → T → Prop) (u : Nat) (r : List Value) : vc xs zH_137 (n + 1) b d 137 1 ml (.ref u :: r) t Q = (vtag u = 1 ∧ vc xs zH_137 n true d 137 4 ml (.ref (tref t u 0) :: r) t Q) := by
  rw [vc_q (o := (25, 0, 1, 0, [])) (by decide +kernel)]; rfl
theorem v_137_4 (xs : Option (List Int32)) (n : Nat) (b : Bool) (d : Nat) (ml : List Value) (t : T) (Q : Option Value → T → Prop) (st : List Value) : vc xs zH_137 (n + 1) b d 137 4 ml st t Q = vga ml 0 (fun v => vc xs zH_137 n true d 137 5 ml (.ref v :: st) t Q) := by
  rw [vc_q (o := (2, 0, 0, 0, [])) (by decide +kernel)]; rfl
theorem v_137_5 (xs : Option (List Int32)) (n : Nat) (b : Bool) (d : Nat) (ml : List Value) (t : T) (Q : Option Value → T → Prop) (u : Nat) (r : List Value) : vc xs zH_137 (n + 1) b d 137 5 ml (.ref u :: r) t Q = (vtag u = 1 ∧ vc xs zH_137 n true d 137 8 ml (.int (t.1 u 1) :: r) t Q) := by
  rw [vc_q (o := (24, 0, 1, 1, [])) (by decide +kernel)]; rfl
theorem v_137_8 (xs : Option (List Int32)) (n : Nat) (b : Bool) (d : Nat) (ml : List Value) (t : T) (Q : Option Value → T → Prop) (v : Int32) (u : Nat) (r : List Value) : vc xs zH_137 (n + 1) b d 137 8 ml (.int v :: .ref u :: r) t Q = (103 ≤ vtag u ∧ vtag u < 108 ∧ vinb v (vlen u) ∧ vc xs zH_137 n true d 137 9 ml (.ref (tref t u v.toNatClampNeg) :: r) t Q) := by
  rw [vc_q (o := (31, 0, 0, 0, [])) (by decide +kernel)]; rfl
theorem v_137_9 (xs : Option (List Int32)) (n : Nat) (b : Bool) (d : Nat) (ml : List Value) (t : T) (Q : Option Value → T → Prop) (v : Nat) (r : List Value) : vc xs zH_137 (n + 1) b d 137 9 ml (.ref v :: r) t Q = vset ml 6 (.ref v) (fun l => vc xs zH_137 n true d 137 11 l r t Q) := by
  rw [vc_q (o := (4, 0, 6, 1, [])) (by decide +kernel)]; rfl
theorem v_137_11 (xs : Option (List Int32)) (n : Nat) (b : Bool) (d : Nat) (ml : List Value) (t : T) (Q : Option Value → T → Prop) (st : List Value) : vc xs zH_137 (n + 1) b d 137 11 ml st t Q = vga ml 6 (fun v => vc xs zH_137 n true d 137 13 ml (.ref v :: st) t Q) := by
  rw [vc_q (o := (2, 0, 6, 1, [])) (by decide +kernel)]; rfl
theorem v_137_13 (xs : Option (List Int32)) (n : Nat) (b : Bool) (d : Nat) (ml : List Value) (t : T) (Q : Option Value → T → Prop) (st : List Value) : vc xs zH_137 (n + 1) b d 137 13 ml st t Q = vgi ml 1 (fun v => vc xs zH_137 n true d 137 14 ml (.int v :: st) t Q) := by
  rw [vc_q (o := (1, 0, 1, 0, [])) (by decide +kernel)]; rfl
theorem v_137_14 (xs : Option (List Int32)) (n : Nat) (b : Bool) (d : Nat) (ml : List Value) (t : T) (Q : Option Value → T → Prop) (v : Int32) (u : Nat) (r : List Value) : vc xs zH_137 (n + 1) b d 137 14 ml (.int v :: .ref u :: r) t Q = (vtag u = 2 ∧ vc xs zH_137 n true d 137 17 ml r (tsi t u 0 v) Q) := by
  rw [vc_q (o := (26, 0, 2, 0, [])) (by decide +kernel)]; rfl
theorem v_137_17 (xs : Option (List Int32)) (n : Nat) (b : Bool) (d : Nat) (ml : List Value) (t : T) (Q : Option Value → T → Prop) (st : List Value) : vc xs zH_137 (n + 1) b d 137 17 ml st t Q = vga ml 6 (fun v => vc xs zH_137 n true d 137 19 ml (.ref v :: st) t Q) := by
  rw [vc_q (o := (2, 0, 6, 1, [])) (by decide +kernel)]; rfl
theorem v_137_19 (xs : Option (List Int32)) (n : Nat) (b : Bool) (d : Nat) (ml : List Value) (t : T) (Q : Option Value → T → Prop) (st : List Value) : vc xs zH_137 (n + 1) b d 137 19 ml st t Q = vgi ml 2 (fun v => vc xs zH_137 n true d 137 20 ml (.int v :: st) t Q) := by
  rw [vc_q (o := (1, 0, 2, 0, [])) (by decide +kernel)]; rfl
theorem v_137_20 (xs : Option (List Int32)) (n : Nat) (b : Bool) (d : Nat) (ml : List Value) (t : T) (Q : Option Value → T → Prop) (v : Int32) (u : Nat) (r : List Value) : vc xs zH_137 (n + 1) b d 137 20 ml (.int v :: .ref u :: r) t Q = (vtag u = 2 ∧ vc xs zH_137 n true d 137 23 ml r (tsi t u 1 v) Q) := by
  rw [vc_q (o := (26, 0, 2, 1, [])) (by decide +kernel)]; rfl
theorem v_137_23 (xs : Option (List Int32)) (n : Nat) (b : Bool) (d : Nat) (ml : List Value) (t : T) (Q : Option Value → T → Prop) (st : List Value) : vc xs zH_137 (n + 1) b d 137 23 ml st t Q = vga ml 6 (fun v => vc xs zH_137 n true d 137 25 ml (.ref v :: st) t Q) := by
  rw [vc_q (o := (2, 0, 6, 1, [])) (by decide +kernel)]; rfl
theorem v_137_25 (xs : Option (List Int32)) (n : Nat) (b : Bool) (d : Nat) (ml : List Value) (t : T) (Q : Option Value → T → Prop) (st : List Value) : vc xs zH_137 (n + 1) b d 137 25 ml st t Q = vgi ml 1 (fun v => vc xs zH_137 n true d 137 26 ml (.int v :: st) t Q) := by
  rw [vc_q (o := (1, 0, 1, 0, [])) (by decide +kernel)]; rfl
theorem v_137_26 (xs : Option (List Int32)) (n : Nat) (b : Bool) (d : Nat) (ml : List Value) (t : T) (Q : Option Value → T → Prop) (st : List Value) : vc xs zH_137 (n + 1) b d 137 26 ml st t Q = vc xs zH_137 n true d 137 27 ml (.int 1 :: st) t Q := by
  rw [vc_q (o := (0, 1, 0, 0, [])) (by decide +kernel)]; rfl
theorem v_137_27 (xs : Option (List Int32)) (n : Nat) (b : Bool) (d : Nat) (ml : List Value) (t : T) (Q : Option Value → T → Prop) (u v : Int32) (r : List Value) : vc xs zH_137 (n + 1) b d 137 27 ml (.int v :: .int u :: r) t Q = (if u = v then vc xs zH_137 n true d 137 30 ml r t Q else vc xs zH_137 n true d 137 39 ml r t Q) := by
  rw [vc_q (o := (20, 0, 39, 1, [])) (by decide +kernel)]; rfl
theorem v_137_30 (xs : Option (List Int32)) (n : Nat) (b : Bool) (d : Nat) (ml : List Value) (t : T) (Q : Option Value → T → Prop) (st : List Value) : vc xs zH_137 (n + 1) b d 137 30 ml st t Q = vgi ml 2 (fun v => vc xs zH_137 n true d 137 31 ml (.int v :: st) t Q) := by
  rw [vc_q (o := (1, 0, 2, 0, [])) (by decide +kernel)]; rfl
theorem v_137_31 (xs : Option (List Int32)) (n : Nat) (b : Bool) (d : Nat) (ml : List Value) (t : T) (Q : Option Value → T → Prop) (st : List Value) : vc xs zH_137 (n + 1) b d 137 31 ml st t Q = vc xs zH_137 n true d 137 32 ml (.int 2 :: st) t Q := by
  rw [vc_q (o := (0, 2, 0, 0, [])) (by decide +kernel)]; rfl
theorem v_137_32 (xs : Option (List Int32)) (n : Nat) (b : Bool) (d : Nat) (ml : List Value) (t : T) (Q : Option Value → T → Prop) (u v : Int32) (r : List Value) : vc xs zH_137 (n + 1) b d 137 32 ml (.int v :: .int u :: r) t Q = (if u < v then vc xs zH_137 n true d 137 35 ml r t Q else vc xs zH_137 n true d 137 39 ml r t Q) := by
  rw [vc_q (o := (20, 0, 39, 3, [])) (by decide +kernel)]; rfl
theorem v_137_35 (xs : Option (List Int32)) (n : Nat) (b : Bool) (d : Nat) (ml : List Value) (t : T) (Q : Option Value → T → Prop) (st : List Value) : vc xs zH_137 (n + 1) b d 137 35 ml st t Q = vc xs zH_137 n true d 137 36 ml (.int 0 :: st) t Q := by
  rw [vc_q (o := (0, 0, 0, 0, [])) (by decide +kernel)]; rfl
theorem v_137_36 (xs : Option (List Int32)) (n : Nat) (b : Bool) (d : Nat) (ml : List Value) (t : T) (Q : Option Value → T → Prop) (st : List Value) : vc xs zH_137 (n + 1) b d 137 36 ml st t Q = vc xs zH_137 n true d 137 40 ml st t Q := by
  rw [vc_q (o := (22, 0, 40, 0, [])) (by decide +kernel)]; rfl
theorem v_137_39 (xs : Option (List Int32)) (n : Nat) (b : Bool) (d : Nat) (ml : List Value) (t : T) (Q : Option Value → T → Prop) (st : List Value) : vc xs zH_137 (n + 1) b d 137 39 ml st t Q = vgi ml 3 (fun v => vc xs zH_137 n true d 137 40 ml (.int v :: st) t Q) := by
  rw [vc_q (o := (1, 0, 3, 0, [])) (by decide +kernel)]; rfl
theorem v_137_40 (xs : Option (List Int32)) (n : Nat) (d : Nat) (ml : List Value) (t : T) (Q : Option Value → T → Prop) (v : Int32) (u : Nat) (r : List Value) : vc xs zH_137 (n + 1) false d 137 40 ml (.int v :: .ref u :: r) t Q = (vtag u = 2 ∧ vc xs zH_137 n true d 137 43 ml r (tsi t u 2 v) Q) := by
  rw [vc_q (o := (26, 0, 2, 2, [])) (by decide +kernel)]; rfl
theorem h_137_40 (xs : Option (List Int32)) (n d : Nat) (ml st : List Value) (t : T) (Q : Option Value → T → Prop) : vc xs zH_137 (n + 1) true d 137 40 ml st t Q = twp xs d 137 40 ml st t Q := id rfl
theorem v_137_43 (xs : Option (List Int32)) (n : Nat) (b : Bool) (d : Nat) (ml : List Value) (t : T) (Q : Option Value → T → Prop) (st : List Value) : vc xs zH_137 (n + 1) b d 137 43 ml st t Q = vga ml 6 (fun v => vc xs zH_137 n true d 137 45 ml (.ref v :: st) t Q) := by
  rw [vc_q (o := (2, 0, 6, 1, [])) (by decide +kernel)]; rfl
theorem v_137_45 (xs : Option (List Int32)) (n : Nat) (b : Bool) (d : Nat) (ml : List Value) (t : T) (Q : Option Value → T → Prop) (st : List Value) : vc xs zH_137 (n + 1) b d 137 45 ml st t Q = vgi ml 1 (fun v => vc xs zH_137 n true d 137 46 ml (.int v :: st) t Q) := by
  rw [vc_q (o := (1, 0, 1, 0, [])) (by decide +kernel)]; rfl
theorem v_137_46 (xs : Option (List Int32)) (n : Nat) (b : Bool) (d : Nat) (ml : List Value) (t : T) (Q : Option Value → T → Prop) (st : List Value) : vc xs zH_137 (n + 1) b d 137 46 ml st t Q = vc xs zH_137 n true d 137 47 ml (.int 1 :: st) t Q := by
  rw [vc_q (o := (0, 1, 0, 0, [])) (by decide +kernel)]; rfl
theorem v_137_47 (xs : Option (List Int32)) (n : Nat) (b : Bool) (d : Nat) (ml : List Value) (t : T) (Q : Option Value → T → Prop) (u v : Int32) (r : List Value) : vc xs zH_137 (n + 1) b d 137 47 ml (.int v :: .int u :: r) t Q = (if u = v then vc xs zH_137 n true d 137 50 ml r t Q else vc xs zH_137 n true d 137 60 ml r t Q) := by
  rw [vc_q (o := (20, 0, 60, 1, [])) (by decide +kernel)]; rfl
theorem v_137_50 (xs : Option (List Int32)) (n : Nat) (b : Bool) (d : Nat) (ml : List Value) (t : T) (Q : Option Value → T → Prop) (st : List Value) : vc xs zH_137 (n + 1) b d 137 50 ml st t Q = vgi ml 2 (fun v => vc xs zH_137 n true d 137 51 ml (.int v :: st) t Q) := by
  rw [vc_q (o := (1, 0, 2, 0, [])) (by decide +kernel)]; rfl
theorem v_137_51 (xs : Option (List Int32)) (n : Nat) (b : Bool) (d : Nat) (ml : List Value) (t : T) (Q : Option Value → T → Prop) (st : List Value) : vc xs zH_137 (n + 1) b d 137 51 ml st t Q = vc xs zH_137 n true d 137 53 ml (.int 6 :: st) t Q := by
  rw [vc_q (o := (0, 6, 1, 0, [])) (by decide +kernel)]; rfl
theorem v_137_53 (xs : Option (List Int32)) (n : Nat) (b : Bool) (d : Nat) (ml : List Value) (t : T) (Q : Option Value → T → Prop) (u v : Int32) (r : List Value) : vc xs zH_137 (n + 1) b d 137 53 ml (.int v :: .int u :: r) t Q = (if u < v then vc xs zH_137 n true d 137 56 ml r t Q else vc xs zH_137 n true d 137 60 ml r t Q) := by
  rw [vc_q (o := (20, 0, 60, 3, [])) (by decide +kernel)]; rfl
theorem v_137_56 (xs : Option (List Int32)) (n : Nat) (b : Bool) (d : Nat) (ml : List Value) (t : T) (Q : Option Value → T → Prop) (st : List Value) : vc xs zH_137 (n + 1) b d 137 56 ml st t Q = vc xs zH_137 n true d 137 57 ml (.int 0 :: st) t Q := by
  rw [vc_q (o := (0, 0, 0, 0, [])) (by decide +kernel)]; rfl
theorem v_137_57 (xs : Option (List Int32)) (n : Nat) (b : Bool) (d : Nat) (ml : List Value) (t : T) (Q : Option Value → T → Prop) (st : List Value) : vc xs zH_137 (n + 1) b d 137 57 ml st t Q = vc xs zH_137 n true d 137 62 ml st t Q := by
  rw [vc_q (o := (22, 0, 62, 0, [])) (by decide +kernel)]; rfl
theorem v_137_60 (xs : Option (List Int32)) (n : Nat) (b : Bool) (d : Nat) (ml : List Value) (t : T) (Q : Option Value → T → Prop) (st : List Value) : vc xs zH_137 (n + 1) b d 137 60 ml st t Q = vgi ml 4 (fun v => vc xs zH_137 n true d 137 62 ml (.int v :: st) t Q) := by
  rw [vc_q (o := (1, 0, 4, 1, [])) (by decide +kernel)]; rfl
theorem v_137_62 (xs : Option (List Int32)) (n : Nat) (d : Nat) (ml : List Value) (t : T) (Q : Option Value → T → Prop) (v : Int32) (u : Nat) (r : List Value) : vc xs zH_137 (n + 1) false d 137 62 ml (.int v :: .ref u :: r) t Q = (vtag u = 2 ∧ vc xs zH_137 n true d 137 65 ml r (tsi t u 3 v) Q) := by
  rw [vc_q (o := (26, 0, 2, 3, [])) (by decide +kernel)]; rfl
theorem h_137_62 (xs : Option (List Int32)) (n d : Nat) (ml st : List Value) (t : T) (Q : Option Value → T → Prop) : vc xs zH_137 (n + 1) true d 137 62 ml st t Q = twp xs d 137 62 ml st t Q := id rfl
theorem v_137_65 (xs : Option (List Int32)) (n : Nat) (b : Bool) (d : Nat) (ml : List Value) (t : T) (Q : Option Value → T → Prop) (st : List Value) : vc xs zH_137 (n + 1) b d 137 65 ml st t Q = vga ml 6 (fun v => vc xs zH_137 n true d 137 67 ml (.ref v :: st) t Q) := by
  rw [vc_q (o := (2, 0, 6, 1, [])) (by decide +kernel)]; rfl
theorem v_137_67 (xs : Option (List Int32)) (n : Nat) (b : Bool) (d : Nat) (ml : List Value) (t : T) (Q : Option Value → T → Prop) (st : List Value) : vc xs zH_137 (n + 1) b d 137 67 ml st t Q = vgi ml 5 (fun v => vc xs zH_137 n true d 137 69 ml (.int v :: st) t Q) := by
  rw [vc_q (o := (1, 0, 5, 1, [])) (by decide +kernel)]; rfl
theorem v_137_69 (xs : Option (List Int32)) (n : Nat) (b : Bool) (d : Nat) (ml : List Value) (t : T) (Q : Option Value → T → Prop) (v : Int32) (u : Nat) (r : List Value) : vc xs zH_137 (n + 1) b d 137 69 ml (.int v :: .ref u :: r) t Q = (vtag u = 2 ∧ vc xs zH_137 n true d 137 72 ml r (tsi t u 4 v) Q) := by
  rw [vc_q (o := (26, 0, 2, 4, [])) (by decide +kernel)]; rfl
theorem v_137_72 (xs : Option (List Int32)) (n : Nat) (b : Bool) (d : Nat) (ml : List Value) (t : T) (Q : Option Value → T → Prop) (st : List Value) : vc xs zH_137 (n + 1) b d 137 72 ml st t Q = vgi ml 1 (fun v => vc xs zH_137 n true d 137 73 ml (.int v :: st) t Q) := by
  rw [vc_q (o := (1, 0, 1, 0, [])) (by decide +kernel)]; rfl
theorem v_137_73 (xs : Option (List Int32)) (n : Nat) (b : Bool) (d : Nat) (ml : List Value) (t : T) (Q : Option Value → T → Prop) (st : List Value) : vc xs zH_137 (n + 1) b d 137 73 ml st t Q = vc xs zH_137 n true d 137 74 ml (.int 2 :: st) t Q := by
  rw [vc_q (o := (0, 2, 0, 0, [])) (by decide +kernel)]; rfl
theorem v_137_74 (xs : Option (List Int32)) (n : Nat) (b : Bool) (d : Nat) (ml : List Value) (t : T) (Q : Option Value → T → Prop) (u v : Int32) (r : List Value) : vc xs zH_137 (n + 1) b d 137 74 ml (.int v :: .int u :: r) t Q = (if v < u then vc xs zH_137 n true d 137 90 ml r t Q else vc xs zH_137 n true d 137 77 ml r t Q) := by
  rw [vc_q (o := (20, 0, 90, 4, [])) (by decide +kernel)]; rfl
theorem v_137_77 (xs : Option (List Int32)) (n : Nat) (b : Bool) (d : Nat) (ml : List Value) (t : T) (Q : Option Value → T → Prop) (st : List Value) : vc xs zH_137 (n + 1) b d 137 77 ml st t Q = vga ml 6 (fun v => vc xs zH_137 n true d 137 79 ml (.ref v :: st) t Q) := by
  rw [vc_q (o := (2, 0, 6, 1, [])) (by decide +kernel)]; rfl
theorem v_137_79 (xs : Option (List Int32)) (n : Nat) (b : Bool) (d : Nat) (ml : List Value) (t : T) (Q : Option Value → T → Prop) (st : List Value) : vc xs zH_137 (n + 1) b d 137 79 ml st t Q = vga ml 6 (fun v => vc xs zH_137 n true d 137 81 ml (.ref v :: st) t Q) := by
  rw [vc_q (o := (2, 0, 6, 1, [])) (by decide +kernel)]; rfl
theorem v_137_81 (xs : Option (List Int32)) (n : Nat) (b : Bool) (d : Nat) (ml : List Value) (t : T) (Q : Option Value → T → Prop) (st : List Value) : vc xs zH_137 (n + 1) b d 137 81 ml st t Q = (st.all zc1 = true ∧ vtk 1 st [] (fun as rest => rest.length ≤ 8 ∧ twc d 138 as t (fun r t' => vc xs zH_137 n true d 137 84 ml (r.toList ++ rest) t' Q))) := by
  rw [vc_q (o := (37, 0, 138, 1, [])) (by decide +kernel)]; rfl
theorem v_137_84 (xs : Option (List Int32)) (n : Nat) (b : Bool) (d : Nat) (ml : List Value) (t : T) (Q : Option Value → T → Prop) (v : Int32) (u : Nat) (r : List Value) : vc xs zH_137 (n + 1) b d 137 84 ml (.int v :: .ref u :: r) t Q = (vtag u = 2 ∧ vc xs zH_137 n true d 137 87 ml r (tsi t u 6 v) Q) := by
  rw [vc_q (o := (26, 0, 2, 6, [])) (by decide +kernel)]; rfl
theorem v_137_87 (xs : Option (List Int32)) (n : Nat) (b : Bool) (d : Nat) (ml : List Value) (t : T) (Q : Option Value → T → Prop) (st : List Value) : vc xs zH_137 (n + 1) b d 137 87 ml st t Q = vc xs zH_137 n true d 137 96 ml st t Q := by
  rw [vc_q (o := (22, 0, 96, 0, [])) (by decide +kernel)]; rfl
theorem v_137_90 (xs : Option (List Int32)) (n : Nat) (b : Bool) (d : Nat) (ml : List Value) (t : T) (Q : Option Value → T → Prop) (st : List Value) : vc xs zH_137 (n + 1) b d 137 90 ml st t Q = vga ml 0 (fun v => vc xs zH_137 n true d 137 91 ml (.ref v :: st) t Q) := by
  rw [vc_q (o := (2, 0, 0, 0, [])) (by decide +kernel)]; rfl
theorem v_137_91 (xs : Option (List Int32)) (n : Nat) (b : Bool) (d : Nat) (ml : List Value) (t : T) (Q : Option Value → T → Prop) (st : List Value) : vc xs zH_137 (n + 1) b d 137 91 ml st t Q = vga ml 6 (fun v => vc xs zH_137 n true d 137 93 ml (.ref v :: st) t Q) := by
  rw [vc_q (o := (2, 0, 6, 1, [])) (by decide +kernel)]; rfl
theorem v_137_93 (xs : Option (List Int32)) (n : Nat) (b : Bool) (d : Nat) (ml : List Value) (t : T) (Q : Option Value → T → Prop) (st : List Value) : vc xs zH_137 (n + 1) b d 137 93 ml st t Q = (st.all zc1 = true ∧ vtk 2 st [] (fun as rest => rest.length ≤ 8 ∧ vrc as 1 (twc d 139 as t (fun r t' => vc xs zH_137 n true d 137 96 ml (r.toList ++ rest) t' Q)))) := by
  rw [vc_q (o := (36, 0, 139, 1, [(0, 1)])) (by decide +kernel)]; rfl
theorem v_137_96 (xs : Option (List Int32)) (n : Nat) (d : Nat) (ml : List Value) (t : T) (Q : Option Value → T → Prop) (st : List Value) : vc xs zH_137 (n + 1) false d 137 96 ml st t Q = vga ml 0 (fun v => vc xs zH_137 n true d 137 97 ml (.ref v :: st) t Q) := by
  rw [vc_q (o := (2, 0, 0, 0, [])) (by decide +kernel)]; rfl
theorem h_137_96 (xs : Option (List Int32)) (n d : Nat) (ml st : List Value) (t : T) (Q : Option Value → T → Prop) : vc xs zH_137 (n + 1) true d 137 96 ml st t Q = twp xs d 137 96 ml st t Q := id rfl
theorem v_137_97_int (xs : Option (List Int32)) (n : Nat) (b : Bool) (d : Nat) (ml : List Value) (t : T) (Q : Option Value → T → Prop) (v : Int32) (r : List Value) : vc xs zH_137 (n + 1) b d 137 97 ml (.int v :: r) t Q = vc xs zH_137 n true d 137 98 ml (.int v :: .int v :: r) t Q := by
  rw [vc_q (o := (17, 0, 0, 0, [])) (by decide +kernel)]; rfl
theorem v_137_97_ref (xs : Option (List Int32)) (n : Nat) (b : Bool) (d : Nat) (ml : List Value) (t : T) (Q : Option Value → T → Prop) (v : Nat) (r : List Value) : vc xs zH_137 (n + 1) b d 137 97 ml (.ref v :: r) t Q = vc xs zH_137 n true d 137 98 ml (.ref v :: .ref v :: r) t Q := by
  rw [vc_q (o := (17, 0, 0, 0, [])) (by decide +kernel)]; rfl
theorem v_137_98 (xs : Option (List Int32)) (n : Nat) (b : Bool) (d : Nat) (ml : List Value) (t : T) (Q : Option Value → T → Prop) (u : Nat) (r : List Value) : vc xs zH_137 (n + 1) b d 137 98 ml (.ref u :: r) t Q = (vtag u = 1 ∧ vc xs zH_137 n true d 137 101 ml (.int (t.1 u 1) :: r) t Q) := by
  rw [vc_q (o := (24, 0, 1, 1, [])) (by decide +kernel)]; rfl
theorem v_137_101 (xs : Option (List Int32)) (n : Nat) (b : Bool) (d : Nat) (ml : List Value) (t : T) (Q : Option Value → T → Prop) (st : List Value) : vc xs zH_137 (n + 1) b d 137 101 ml st t Q = vc xs zH_137 n true d 137 102 ml (.int 1 :: st) t Q := by
  rw [vc_q (o := (0, 1, 0, 0, [])) (by decide +kernel)]; rfl
theorem v_137_102 (xs : Option (List Int32)) (n : Nat) (b : Bool) (d : Nat) (ml : List Value) (t : T) (Q : Option Value → T → Prop) (u v : Int32) (r : List Value) : vc xs zH_137 (n + 1) b d 137 102 ml (.int v :: .int u :: r) t Q = vc xs zH_137 n true d 137 103 ml (.int (u + v) :: r) t Q := by
  rw [vc_q (o := (6, 0, 0, 0, [])) (by decide +kernel)]; rfl
theorem v_137_103 (xs : Option (List Int32)) (n : Nat) (b : Bool) (d : Nat) (ml : List Value) (t : T) (Q : Option Value → T → Prop) (v : Int32) (u : Nat) (r : List Value) : vc xs zH_137 (n + 1) b d 137 103 ml (.int v :: .ref u :: r) t Q = (vtag u = 1 ∧ vc xs zH_137 n true d 137 106 ml r (tsi t u 1 v) Q) := by
  rw [vc_q (o := (26, 0, 1, 1, [])) (by decide +kernel)]; rfl
theorem v_137_106 (xs : Option (List Int32)) (n : Nat) (b : Bool) (d : Nat) (ml : List Value) (t : T) (Q : Option Value → T → Prop) (st : List Value) : vc xs zH_137 (n + 1) b d 137 106 ml st t Q = vga ml 0 (fun v => vc xs zH_137 n true d 137 107 ml (.ref v :: st) t Q) := by
  rw [vc_q (o := (2, 0, 0, 0, [])) (by decide +kernel)]; rfl
theorem v_137_107 (xs : Option (List Int32)) (n : Nat) (b : Bool) (d : Nat) (ml : List Value) (t : T) (Q : Option Value → T → Prop) (u : Nat) (r : List Value) : vc xs zH_137 (n + 1) b d 137 107 ml (.ref u :: r) t Q = (vtag u = 1 ∧ vc xs zH_137 n true d 137 110 ml (.int (t.1 u 1) :: r) t Q) := by
  rw [vc_q (o := (24, 0, 1, 1, [])) (by decide +kernel)]; rfl
theorem v_137_110 (xs : Option (List Int32)) (n : Nat) (b : Bool) (d : Nat) (ml : List Value) (t : T) (Q : Option Value → T → Prop) (st : List Value) : vc xs zH_137 (n + 1) b d 137 110 ml st t Q = vc xs zH_137 n true d 137 111 ml (.int 1 :: st) t Q := by
  rw [vc_q (o := (0, 1, 0, 0, [])) (by decide +kernel)]; rfl
theorem v_137_111 (xs : Option (List Int32)) (n : Nat) (b : Bool) (d : Nat) (ml : List Value) (t : T) (Q : Option Value → T → Prop) (u v : Int32) (r : List Value) : vc xs zH_137 (n + 1) b d 137 111 ml (.int v :: .int u :: r) t Q = vc xs zH_137 n true d 137 112 ml (.int (u - v) :: r) t Q := by
  rw [vc_q (o := (7, 0, 0, 0, [])) (by decide +kernel)]; rfl
theorem v_137_112 (xs : Option (List Int32)) (n : Nat) (b : Bool) (d : Nat) (ml : List Value) (t : T) (Q : Option Value → T → Prop) (v : Int32) : vc xs zH_137 (n + 1) b d 137 112 ml [.int v] t Q = Q (some (.int v)) t := by
  rw [vc_q (o := (40, 0, 0, 0, [])) (by decide +kernel)]; rfl
def zH_138 : List Nat := []
theorem v_138_0 (xs : Option (List Int32)) (n : Nat) (b : Bool) (d : Nat) (ml : List Value) (t : T) (Q : Option Value → T → Prop) (st : List Value) : vc xs zH_138 (n + 1) b d 138 0 ml st t Q = vga ml 0 (fun v => vc xs zH_138 n true d 138 1 ml (.ref v :: st) t Q) := by
  rw [vc_q (o := (2, 0, 0, 0, [])) (by decide +kernel)]; rfl
theorem v_138_1 (xs : Option (List Int32)) (n : Nat) (b : Bool) (d : Nat) (ml : List Value) (t : T) (Q : Option Value → T → Prop) (u : Nat) (r : List Value) : vc xs zH_138 (n + 1) b d 138 1 ml (.ref u :: r) t Q = (vtag u = 2 ∧ vc xs zH_138 n true d 138 4 ml (.int (t.1 u 0) :: r) t Q) := by
  rw [vc_q (o := (24, 0, 2, 0, [])) (by decide +kernel)]; rfl
theorem v_138_4 (xs : Option (List Int32)) (n : Nat) (b : Bool) (d : Nat) (ml : List Value) (t : T) (Q : Option Value → T → Prop) (u : Int32) (r : List Value) : vc xs zH_138 (n + 1) b d 138 4 ml (.int u :: r) t Q = (if u = 0 then vc xs zH_138 n true d 138 23 ml r t Q else vc xs zH_138 n true d 138 7 ml r t Q) := by
  rw [vc_q (o := (21, 0, 23, 0, [])) (by decide +kernel)]; rfl
theorem v_138_7 (xs : Option (List Int32)) (n : Nat) (b : Bool) (d : Nat) (ml : List Value) (t : T) (Q : Option Value → T → Prop) (st : List Value) : vc xs zH_138 (n + 1) b d 138 7 ml st t Q = vga ml 0 (fun v => vc xs zH_138 n true d 138 8 ml (.ref v :: st) t Q) := by
  rw [vc_q (o := (2, 0, 0, 0, [])) (by decide +kernel)]; rfl
theorem v_138_8 (xs : Option (List Int32)) (n : Nat) (b : Bool) (d : Nat) (ml : List Value) (t : T) (Q : Option Value → T → Prop) (u : Nat) (r : List Value) : vc xs zH_138 (n + 1) b d 138 8 ml (.ref u :: r) t Q = (vtag u = 2 ∧ vc xs zH_138 n true d 138 11 ml (.int (t.1 u 0) :: r) t Q) := by
  rw [vc_q (o := (24, 0, 2, 0, [])) (by decide +kernel)]; rfl
theorem v_138_11 (xs : Option (List Int32)) (n : Nat) (b : Bool) (d : Nat) (ml : List Value) (t : T) (Q : Option Value → T → Prop) (st : List Value) : vc xs zH_138 (n + 1) b d 138 11 ml st t Q = vc xs zH_138 n true d 138 12 ml (.int 1 :: st) t Q := by
  rw [vc_q (o := (0, 1, 0, 0, [])) (by decide +kernel)]; rfl
theorem v_138_12 (xs : Option (List Int32)) (n : Nat) (b : Bool) (d : Nat) (ml : List Value) (t : T) (Q : Option Value → T → Prop) (u v : Int32) (r : List Value) : vc xs zH_138 (n + 1) b d 138 12 ml (.int v :: .int u :: r) t Q = (if u = v then vc xs zH_138 n true d 138 15 ml r t Q else vc xs zH_138 n true d 138 25 ml r t Q) := by
  rw [vc_q (o := (20, 0, 25, 1, [])) (by decide +kernel)]; rfl
theorem v_138_15 (xs : Option (List Int32)) (n : Nat) (b : Bool) (d : Nat) (ml : List Value) (t : T) (Q : Option Value → T → Prop) (st : List Value) : vc xs zH_138 (n + 1) b d 138 15 ml st t Q = vga ml 0 (fun v => vc xs zH_138 n true d 138 16 ml (.ref v :: st) t Q) := by
  rw [vc_q (o := (2, 0, 0, 0, [])) (by decide +kernel)]; rfl
theorem v_138_16 (xs : Option (List Int32)) (n : Nat) (b : Bool) (d : Nat) (ml : List Value) (t : T) (Q : Option Value → T → Prop) (u : Nat) (r : List Value) : vc xs zH_138 (n + 1) b d 138 16 ml (.ref u :: r) t Q = (vtag u = 2 ∧ vc xs zH_138 n true d 138 19 ml (.int (t.1 u 1) :: r) t Q) := by
  rw [vc_q (o := (24, 0, 2, 1, [])) (by decide +kernel)]; rfl
theorem v_138_19 (xs : Option (List Int32)) (n : Nat) (b : Bool) (d : Nat) (ml : List Value) (t : T) (Q : Option Value → T → Prop) (st : List Value) : vc xs zH_138 (n + 1) b d 138 19 ml st t Q = vc xs zH_138 n true d 138 20 ml (.int 2 :: st) t Q := by
  rw [vc_q (o := (0, 2, 0, 0, [])) (by decide +kernel)]; rfl
theorem v_138_20 (xs : Option (List Int32)) (n : Nat) (b : Bool) (d : Nat) (ml : List Value) (t : T) (Q : Option Value → T → Prop) (u v : Int32) (r : List Value) : vc xs zH_138 (n + 1) b d 138 20 ml (.int v :: .int u :: r) t Q = (if u < v then vc xs zH_138 n true d 138 23 ml r t Q else vc xs zH_138 n true d 138 25 ml r t Q) := by
  rw [vc_q (o := (20, 0, 25, 3, [])) (by decide +kernel)]; rfl
theorem v_138_23 (xs : Option (List Int32)) (n : Nat) (b : Bool) (d : Nat) (ml : List Value) (t : T) (Q : Option Value → T → Prop) (st : List Value) : vc xs zH_138 (n + 1) b d 138 23 ml st t Q = vc xs zH_138 n true d 138 24 ml (.int 0 :: st) t Q := by
  rw [vc_q (o := (0, 0, 0, 0, [])) (by decide +kernel)]; rfl
theorem v_138_24 (xs : Option (List Int32)) (n : Nat) (b : Bool) (d : Nat) (ml : List Value) (t : T) (Q : Option Value → T → Prop) (v : Int32) : vc xs zH_138 (n + 1) b d 138 24 ml [.int v] t Q = Q (some (.int v)) t := by
  rw [vc_q (o := (40, 0, 0, 0, [])) (by decide +kernel)]; rfl
theorem v_138_25 (xs : Option (List Int32)) (n : Nat) (b : Bool) (d : Nat) (ml : List Value) (t : T) (Q : Option Value → T → Prop) (st : List Value) : vc xs zH_138 (n + 1) b d 138 25 ml st t Q = vga ml 0 (fun v => vc xs zH_138 n true d 138 26 ml (.ref v :: st) t Q) := by
  rw [vc_q (o := (2, 0, 0, 0, [])) (by decide +kernel)]; rfl
theorem v_138_26 (xs : Option (List Int32)) (n : Nat) (b : Bool) (d : Nat) (ml : List Value) (t : T) (Q : Option Value → T → Prop) (u : Nat) (r : List Value) : vc xs zH_138 (n + 1) b d 138 26 ml (.ref u :: r) t Q = (vtag u = 2 ∧ vc xs zH_138 n true d 138 29 ml (.int (t.1 u 0) :: r) t Q) := by
  rw [vc_q (o := (24, 0, 2, 0, [])) (by decide +kernel)]; rfl
theorem v_138_29 (xs : Option (List Int32)) (n : Nat) (b : Bool) (d : Nat) (ml : List Value) (t : T) (Q : Option Value → T → Prop) (st : List Value) : vc xs zH_138 (n + 1) b d 138 29 ml st t Q = vc xs zH_138 n true d 138 30 ml (.int 1 :: st) t Q := by
  rw [vc_q (o := (0, 1, 0, 0, [])) (by decide +kernel)]; rfl
theorem v_138_30 (xs : Option (List Int32)) (n : Nat) (b : Bool) (d : Nat) (ml : List Value) (t : T) (Q : Option Value → T → Prop) (u v : Int32) (r : List Value) : vc xs zH_138 (n + 1) b d 138 30 ml (.int v :: .int u :: r) t Q = (if u = v then vc xs zH_138 n true d 138 33 ml r t Q else vc xs zH_138 n true d 138 49 ml r t Q) := by
  rw [vc_q (o := (20, 0, 49, 1, [])) (by decide +kernel)]; rfl
theorem v_138_33 (xs : Option (List Int32)) (n : Nat) (b : Bool) (d : Nat) (ml : List Value) (t : T) (Q : Option Value → T → Prop) (st : List Value) : vc xs zH_138 (n + 1) b d 138 33 ml st t Q = vga ml 0 (fun v => vc xs zH_138 n true d 138 34 ml (.ref v :: st) t Q) := by
  rw [vc_q (o := (2, 0, 0, 0, [])) (by decide +kernel)]; rfl
theorem v_138_34 (xs : Option (List Int32)) (n : Nat) (b : Bool) (d : Nat) (ml : List Value) (t : T) (Q : Option Value → T → Prop) (u : Nat) (r : List Value) : vc xs zH_138 (n + 1) b d 138 34 ml (.ref u :: r) t Q = (vtag u = 2 ∧ vc xs zH_138 n true d 138 37 ml (.int (t.1 u 1) :: r) t Q) := by
  rw [vc_q (o := (24, 0, 2, 1, [])) (by decide +kernel)]; rfl
theorem v_138_37 (xs : Option (List Int32)) (n : Nat) (b : Bool) (d : Nat) (ml : List Value) (t : T) (Q : Option Value → T → Prop) (st : List Value) : vc xs zH_138 (n + 1) b d 138 37 ml st t Q = vc xs zH_138 n true d 138 39 ml (.int 6 :: st) t Q := by
  rw [vc_q (o := (0, 6, 1, 0, [])) (by decide +kernel)]; rfl
theorem v_138_39 (xs : Option (List Int32)) (n : Nat) (b : Bool) (d : Nat) (ml : List Value) (t : T) (Q : Option Value → T → Prop) (u v : Int32) (r : List Value) : vc xs zH_138 (n + 1) b d 138 39 ml (.int v :: .int u :: r) t Q = (if u < v then vc xs zH_138 n true d 138 42 ml r t Q else vc xs zH_138 n true d 138 49 ml r t Q) := by
  rw [vc_q (o := (20, 0, 49, 3, [])) (by decide +kernel)]; rfl
theorem v_138_42 (xs : Option (List Int32)) (n : Nat) (b : Bool) (d : Nat) (ml : List Value) (t : T) (Q : Option Value → T → Prop) (st : List Value) : vc xs zH_138 (n + 1) b d 138 42 ml st t Q = vc xs zH_138 n true d 138 43 ml (.int 1 :: st) t Q := by
  rw [vc_q (o := (0, 1, 0, 0, [])) (by decide +kernel)]; rfl
theorem v_138_43 (xs : Option (List Int32)) (n : Nat) (b : Bool) (d : Nat) (ml : List Value) (t : T) (Q : Option Value → T → Prop) (st : List Value) : vc xs zH_138 (n + 1) b d 138 43 ml st t Q = vga ml 0 (fun v => vc xs zH_138 n true d 138 44 ml (.ref v :: st) t Q) := by
  rw [vc_q (o := (2, 0, 0, 0, [])) (by decide +kernel)]; rfl
theorem v_138_44 (xs : Option (List Int32)) (n : Nat) (b : Bool) (d : Nat) (ml : List Value) (t : T) (Q : Option Value → T → Prop) (u : Nat) (r : List Value) : vc xs zH_138 (n + 1) b d 138 44 ml (.ref u :: r) t Q = (vtag u = 2 ∧ vc xs zH_138 n true d 138 47 ml (.int (t.1 u 2) :: r) t Q) := by
  rw [vc_q (o := (24, 0, 2, 2, [])) (by decide +kernel)]; rfl
theorem v_138_47 (xs : Option (List Int32)) (n : Nat) (b : Bool) (d : Nat) (ml : List Value) (t : T) (Q : Option Value → T → Prop) (u v : Int32) (r : List Value) : vc xs zH_138 (n + 1) b d 138 47 ml (.int v :: .int u :: r) t Q = vc xs zH_138 n true d 138 48 ml (.int (u <<< (v &&& 31)) :: r) t Q := by
  rw [vc_q (o := (12, 0, 0, 0, [])) (by decide +kernel)]; rfl
theorem v_138_48 (xs : Option (List Int32)) (n : Nat) (b : Bool) (d : Nat) (ml : List Value) (t : T) (Q : Option Value → T → Prop) (v : Int32) : vc xs zH_138 (n + 1) b d 138 48 ml [.int v] t Q = Q (some (.int v)) t := by
  rw [vc_q (o := (40, 0, 0, 0, [])) (by decide +kernel)]; rfl
theorem v_138_49 (xs : Option (List Int32)) (n : Nat) (b : Bool) (d : Nat) (ml : List Value) (t : T) (Q : Option Value → T → Prop) (st : List Value) : vc xs zH_138 (n + 1) b d 138 49 ml st t Q = vc xs zH_138 n true d 138 50 ml (.int 1 :: st) t Q := by
  rw [vc_q (o := (0, 1, 0, 0, [])) (by decide +kernel)]; rfl
theorem v_138_50 (xs : Option (List Int32)) (n : Nat) (b : Bool) (d : Nat) (ml : List Value) (t : T) (Q : Option Value → T → Prop) (st : List Value) : vc xs zH_138 (n + 1) b d 138 50 ml st t Q = vga ml 0 (fun v => vc xs zH_138 n true d 138 51 ml (.ref v :: st) t Q) := by
  rw [vc_q (o := (2, 0, 0, 0, [])) (by decide +kernel)]; rfl
theorem v_138_51 (xs : Option (List Int32)) (n : Nat) (b : Bool) (d : Nat) (ml : List Value) (t : T) (Q : Option Value → T → Prop) (u : Nat) (r : List Value) : vc xs zH_138 (n + 1) b d 138 51 ml (.ref u :: r) t Q = (vtag u = 2 ∧ vc xs zH_138 n true d 138 54 ml (.int (t.1 u 2) :: r) t Q) := by
  rw [vc_q (o := (24, 0, 2, 2, [])) (by decide +kernel)]; rfl
theorem v_138_54 (xs : Option (List Int32)) (n : Nat) (b : Bool) (d : Nat) (ml : List Value) (t : T) (Q : Option Value → T → Prop) (u v : Int32) (r : List Value) : vc xs zH_138 (n + 1) b d 138 54 ml (.int v :: .int u :: r) t Q = vc xs zH_138 n true d 138 55 ml (.int (u <<< (v &&& 31)) :: r) t Q := by
  rw [vc_q (o := (12, 0, 0, 0, [])) (by decide +kernel)]; rfl
theorem v_138_55 (xs : Option (List Int32)) (n : Nat) (b : Bool) (d : Nat) (ml : List Value) (t : T) (Q : Option Value → T → Prop) (st : List Value) : vc xs zH_138 (n + 1) b d 138 55 ml st t Q = vc xs zH_138 n true d 138 56 ml (.int 1 :: st) t Q := by
  rw [vc_q (o := (0, 1, 0, 0, [])) (by decide +kernel)]; rfl
theorem v_138_56 (xs : Option (List Int32)) (n : Nat) (b : Bool) (d : Nat) (ml : List Value) (t : T) (Q : Option Value → T → Prop) (st : List Value) : vc xs zH_138 (n + 1) b d 138 56 ml st t Q = vga ml 0 (fun v => vc xs zH_138 n true d 138 57 ml (.ref v :: st) t Q) := by
  rw [vc_q (o := (2, 0, 0, 0, [])) (by decide +kernel)]; rfl
theorem v_138_57 (xs : Option (List Int32)) (n : Nat) (b : Bool) (d : Nat) (ml : List Value) (t : T) (Q : Option Value → T → Prop) (u : Nat) (r : List Value) : vc xs zH_138 (n + 1) b d 138 57 ml (.ref u :: r) t Q = (vtag u = 2 ∧ vc xs zH_138 n true d 138 60 ml (.int (t.1 u 3) :: r) t Q) := by
  rw [vc_q (o := (24, 0, 2, 3, [])) (by decide +kernel)]; rfl
theorem v_138_60 (xs : Option (List Int32)) (n : Nat) (b : Bool) (d : Nat) (ml : List Value) (t : T) (Q : Option Value → T → Prop) (u v : Int32) (r : List Value) : vc xs zH_138 (n + 1) b d 138 60 ml (.int v :: .int u :: r) t Q = vc xs zH_138 n true d 138 61 ml (.int (u <<< (v &&& 31)) :: r) t Q := by
  rw [vc_q (o := (12, 0, 0, 0, [])) (by decide +kernel)]; rfl
theorem v_138_61 (xs : Option (List Int32)) (n : Nat) (b : Bool) (d : Nat) (ml : List Value) (t : T) (Q : Option Value → T → Prop) (u v : Int32) (r : List Value) : vc xs zH_138 (n + 1) b d 138 61 ml (.int v :: .int u :: r) t Q = vc xs zH_138 n true d 138 62 ml (.int (u ||| v) :: r) t Q := by
  rw [vc_q (o := (10, 0, 0, 0, [])) (by decide +kernel)]; rfl
theorem v_138_62 (xs : Option (List Int32)) (n : Nat) (b : Bool) (d : Nat) (ml : List Value) (t : T) (Q : Option Value → T → Prop) (v : Int32) : vc xs zH_138 (n + 1) b d 138 62 ml [.int v] t Q = Q (some (.int v)) t := by
  rw [vc_q (o := (40, 0, 0, 0, [])) (by decide +kernel)]; rfl
def zH_139 : List Nat := [195]
theorem v_139_0 (xs : Option (List Int32)) (n : Nat) (b : Bool) (d : Nat) (ml : List Value) (t : T) (Q : Option Value → T → Prop) (st : List Value) : vc xs zH_139 (n + 1) b d 139 0 ml st t Q = vga ml 0 (fun v => vc xs zH_139 n true d 139 1 ml (.ref v :: st) t Q) := by
  rw [vc_q (o := (2, 0, 0, 0, [])) (by decide +kernel)]; rfl
theorem v_139_1 (xs : Option (List Int32)) (n : Nat) (b : Bool) (d : Nat) (ml : List Value) (t : T) (Q : Option Value → T → Prop) (u : Nat) (r : List Value) : vc xs zH_139 (n + 1) b d 139 1 ml (.ref u :: r) t Q = (vtag u = 1 ∧ vc xs zH_139 n true d 139 4 ml (.ref (tref t u 0) :: r) t Q) := by
  rw [vc_q (o := (25, 0, 1, 0, [])) (by decide +kernel)]; rfl
theorem v_139_4 (xs : Option (List Int32)) (n : Nat) (b : Bool) (d : Nat) (ml : List Value) (t : T) (Q : Option Value → T → Prop) (st : List Value) : vc xs zH_139 (n + 1) b d 139 4 ml st t Q = vga ml 1 (fun v => vc xs zH_139 n true d 139 5 ml (.ref v :: st) t Q) := by
  rw [vc_q (o := (2, 0, 1, 0, [])) (by decide +kernel)]; rfl
theorem v_139_5 (xs : Option (List Int32)) (n : Nat) (b : Bool) (d : Nat) (ml : List Value) (t : T) (Q : Option Value → T → Prop) (u : Nat) (r : List Value) : vc xs zH_139 (n + 1) b d 139 5 ml (.ref u :: r) t Q = (vtag u = 2 ∧ vc xs zH_139 n true d 139 8 ml (.int (t.1 u 3) :: r) t Q) := by
  rw [vc_q (o := (24, 0, 2, 3, [])) (by decide +kernel)]; rfl
theorem v_139_8 (xs : Option (List Int32)) (n : Nat) (b : Bool) (d : Nat) (ml : List Value) (t : T) (Q : Option Value → T → Prop) (v : Int32) (u : Nat) (r : List Value) : vc xs zH_139 (n + 1) b d 139 8 ml (.int v :: .ref u :: r) t Q = (103 ≤ vtag u ∧ vtag u < 108 ∧ vinb v (vlen u) ∧ vc xs zH_139 n true d 139 9 ml (.ref (tref t u v.toNatClampNeg) :: r) t Q) := by
  rw [vc_q (o := (31, 0, 0, 0, [])) (by decide +kernel)]; rfl
theorem v_139_9 (xs : Option (List Int32)) (n : Nat) (b : Bool) (d : Nat) (ml : List Value) (t : T) (Q : Option Value → T → Prop) (v : Nat) (r : List Value) : vc xs zH_139 (n + 1) b d 139 9 ml (.ref v :: r) t Q = vset ml 2 (.ref v) (fun l => vc xs zH_139 n true d 139 10 l r t Q) := by
  rw [vc_q (o := (4, 0, 2, 0, [])) (by decide +kernel)]; rfl
theorem v_139_10 (xs : Option (List Int32)) (n : Nat) (b : Bool) (d : Nat) (ml : List Value) (t : T) (Q : Option Value → T → Prop) (st : List Value) : vc xs zH_139 (n + 1) b d 139 10 ml st t Q = vga ml 1 (fun v => vc xs zH_139 n true d 139 11 ml (.ref v :: st) t Q) := by
  rw [vc_q (o := (2, 0, 1, 0, [])) (by decide +kernel)]; rfl
theorem v_139_11 (xs : Option (List Int32)) (n : Nat) (b : Bool) (d : Nat) (ml : List Value) (t : T) (Q : Option Value → T → Prop) (st : List Value) : vc xs zH_139 (n + 1) b d 139 11 ml st t Q = vga ml 2 (fun v => vc xs zH_139 n true d 139 12 ml (.ref v :: st) t Q) := by
  rw [vc_q (o := (2, 0, 2, 0, [])) (by decide +kernel)]; rfl
theorem v_139_12 (xs : Option (List Int32)) (n : Nat) (b : Bool) (d : Nat) (ml : List Value) (t : T) (Q : Option Value → T → Prop) (u : Nat) (r : List Value) : vc xs zH_139 (n + 1) b d 139 12 ml (.ref u :: r) t Q = (vtag u = 2 ∧ vc xs zH_139 n true d 139 15 ml (.int (t.1 u 5) :: r) t Q) := by
  rw [vc_q (o := (24, 0, 2, 5, [])) (by decide +kernel)]; rfl
theorem v_139_15 (xs : Option (List Int32)) (n : Nat) (b : Bool) (d : Nat) (ml : List Value) (t : T) (Q : Option Value → T → Prop) (st : List Value) : vc xs zH_139 (n + 1) b d 139 15 ml st t Q = vc xs zH_139 n true d 139 16 ml (.int 1 :: st) t Q := by
  rw [vc_q (o := (0, 1, 0, 0, [])) (by decide +kernel)]; rfl
theorem v_139_16 (xs : Option (List Int32)) (n : Nat) (b : Bool) (d : Nat) (ml : List Value) (t : T) (Q : Option Value → T → Prop) (u v : Int32) (r : List Value) : vc xs zH_139 (n + 1) b d 139 16 ml (.int v :: .int u :: r) t Q = vc xs zH_139 n true d 139 17 ml (.int (u + v) :: r) t Q := by
  rw [vc_q (o := (6, 0, 0, 0, [])) (by decide +kernel)]; rfl
theorem v_139_17 (xs : Option (List Int32)) (n : Nat) (b : Bool) (d : Nat) (ml : List Value) (t : T) (Q : Option Value → T → Prop) (v : Int32) (u : Nat) (r : List Value) : vc xs zH_139 (n + 1) b d 139 17 ml (.int v :: .ref u :: r) t Q = (vtag u = 2 ∧ vc xs zH_139 n true d 139 20 ml r (tsi t u 5 v) Q) := by
  rw [vc_q (o := (26, 0, 2, 5, [])) (by decide +kernel)]; rfl
theorem v_139_20 (xs : Option (List Int32)) (n : Nat) (b : Bool) (d : Nat) (ml : List Value) (t : T) (Q : Option Value → T → Prop) (st : List Value) : vc xs zH_139 (n + 1) b d 139 20 ml st t Q = vga ml 1 (fun v => vc xs zH_139 n true d 139 21 ml (.ref v :: st) t Q) := by
  rw [vc_q (o := (2, 0, 1, 0, [])) (by decide +kernel)]; rfl
theorem v_139_21 (xs : Option (List Int32)) (n : Nat) (b : Bool) (d : Nat) (ml : List Value) (t : T) (Q : Option Value → T → Prop) (st : List Value) : vc xs zH_139 (n + 1) b d 139 21 ml st t Q = vga ml 2 (fun v => vc xs zH_139 n true d 139 22 ml (.ref v :: st) t Q) := by
  rw [vc_q (o := (2, 0, 2, 0, [])) (by decide +kernel)]; rfl
theorem v_139_22 (xs : Option (List Int32)) (n : Nat) (b : Bool) (d : Nat) (ml : List Value) (t : T) (Q : Option Value → T → Prop) (u : Nat) (r : List Value) : vc xs zH_139 (n + 1) b d 139 22 ml (.ref u :: r) t Q = (vtag u = 2 ∧ vc xs zH_139 n true d 139 25 ml (.int (t.1 u 6) :: r) t Q) := by
  rw [vc_q (o := (24, 0, 2, 6, [])) (by decide +kernel)]; rfl
theorem v_139_25 (xs : Option (List Int32)) (n : Nat) (b : Bool) (d : Nat) (ml : List Value) (t : T) (Q : Option Value → T → Prop) (v : Int32) (u : Nat) (r : List Value) : vc xs zH_139 (n + 1) b d 139 25 ml (.int v :: .ref u :: r) t Q = (vtag u = 2 ∧ vc xs zH_139 n true d 139 28 ml r (tsi t u 6 v) Q) := by
  rw [vc_q (o := (26, 0, 2, 6, [])) (by decide +kernel)]; rfl
theorem v_139_28 (xs : Option (List Int32)) (n : Nat) (b : Bool) (d : Nat) (ml : List Value) (t : T) (Q : Option Value → T → Prop) (st : List Value) : vc xs zH_139 (n + 1) b d 139 28 ml st t Q = vga ml 1 (fun v => vc xs zH_139 n true d 139 29 ml (.ref v :: st) t Q) := by
  rw [vc_q (o := (2, 0, 1, 0, [])) (by decide +kernel)]; rfl
theorem v_139_29 (xs : Option (List Int32)) (n : Nat) (b : Bool) (d : Nat) (ml : List Value) (t : T) (Q : Option Value → T → Prop) (st : List Value) : vc xs zH_139 (n + 1) b d 139 29 ml st t Q = vga ml 2 (fun v => vc xs zH_139 n true d 139 30 ml (.ref v :: st) t Q) := by
  rw [vc_q (o := (2, 0, 2, 0, [])) (by decide +kernel)]; rfl
theorem v_139_30 (xs : Option (List Int32)) (n : Nat) (b : Bool) (d : Nat) (ml : List Value) (t : T) (Q : Option Value → T → Prop) (u : Nat) (r : List Value) : vc xs zH_139 (n + 1) b d 139 30 ml (.ref u :: r) t Q = (vtag u = 2 ∧ vc xs zH_139 n true d 139 33 ml (.int (t.1 u 7) :: r) t Q) := by
  rw [vc_q (o := (24, 0, 2, 7, [])) (by decide +kernel)]; rfl
theorem v_139_33 (xs : Option (List Int32)) (n : Nat) (b : Bool) (d : Nat) (ml : List Value) (t : T) (Q : Option Value → T → Prop) (v : Int32) (u : Nat) (r : List Value) : vc xs zH_139 (n + 1) b d 139 33 ml (.int v :: .ref u :: r) t Q = (vtag u = 2 ∧ (v = 0 ∨ v = 1) ∧ vc xs zH_139 n true d 139 36 ml r (tsi t u 7 v) Q) := by
  rw [vc_q (o := (27, 0, 2, 7, [])) (by decide +kernel)]; rfl
theorem v_139_36 (xs : Option (List Int32)) (n : Nat) (b : Bool) (d : Nat) (ml : List Value) (t : T) (Q : Option Value → T → Prop) (st : List Value) : vc xs zH_139 (n + 1) b d 139 36 ml st t Q = vga ml 1 (fun v => vc xs zH_139 n true d 139 37 ml (.ref v :: st) t Q) := by
  rw [vc_q (o := (2, 0, 1, 0, [])) (by decide +kernel)]; rfl
theorem v_139_37 (xs : Option (List Int32)) (n : Nat) (b : Bool) (d : Nat) (ml : List Value) (t : T) (Q : Option Value → T → Prop) (u : Nat) (r : List Value) : vc xs zH_139 (n + 1) b d 139 37 ml (.ref u :: r) t Q = (vtag u = 2 ∧ vc xs zH_139 n true d 139 40 ml (.int (t.1 u 0) :: r) t Q) := by
  rw [vc_q (o := (24, 0, 2, 0, [])) (by decide +kernel)]; rfl
theorem v_139_40 (xs : Option (List Int32)) (n : Nat) (b : Bool) (d : Nat) (ml : List Value) (t : T) (Q : Option Value → T → Prop) (st : List Value) : vc xs zH_139 (n + 1) b d 139 40 ml st t Q = vc xs zH_139 n true d 139 41 ml (.int 4 :: st) t Q := by
  rw [vc_q (o := (0, 4, 0, 0, [])) (by decide +kernel)]; rfl
theorem v_139_41 (xs : Option (List Int32)) (n : Nat) (b : Bool) (d : Nat) (ml : List Value) (t : T) (Q : Option Value → T → Prop) (u v : Int32) (r : List Value) : vc xs zH_139 (n + 1) b d 139 41 ml (.int v :: .int u :: r) t Q = (if u = v then vc xs zH_139 n true d 139 52 ml r t Q else vc xs zH_139 n true d 139 44 ml r t Q) := by
  rw [vc_q (o := (20, 0, 52, 0, [])) (by decide +kernel)]; rfl
theorem v_139_44 (xs : Option (List Int32)) (n : Nat) (b : Bool) (d : Nat) (ml : List Value) (t : T) (Q : Option Value → T → Prop) (st : List Value) : vc xs zH_139 (n + 1) b d 139 44 ml st t Q = vga ml 1 (fun v => vc xs zH_139 n true d 139 45 ml (.ref v :: st) t Q) := by
  rw [vc_q (o := (2, 0, 1, 0, [])) (by decide +kernel)]; rfl
theorem v_139_45 (xs : Option (List Int32)) (n : Nat) (b : Bool) (d : Nat) (ml : List Value) (t : T) (Q : Option Value → T → Prop) (u : Nat) (r : List Value) : vc xs zH_139 (n + 1) b d 139 45 ml (.ref u :: r) t Q = (vtag u = 2 ∧ vc xs zH_139 n true d 139 48 ml (.int (t.1 u 0) :: r) t Q) := by
  rw [vc_q (o := (24, 0, 2, 0, [])) (by decide +kernel)]; rfl
theorem v_139_48 (xs : Option (List Int32)) (n : Nat) (b : Bool) (d : Nat) (ml : List Value) (t : T) (Q : Option Value → T → Prop) (st : List Value) : vc xs zH_139 (n + 1) b d 139 48 ml st t Q = vc xs zH_139 n true d 139 49 ml (.int 5 :: st) t Q := by
  rw [vc_q (o := (0, 5, 0, 0, [])) (by decide +kernel)]; rfl
theorem v_139_49 (xs : Option (List Int32)) (n : Nat) (b : Bool) (d : Nat) (ml : List Value) (t : T) (Q : Option Value → T → Prop) (u v : Int32) (r : List Value) : vc xs zH_139 (n + 1) b d 139 49 ml (.int v :: .int u :: r) t Q = (if u = v then vc xs zH_139 n true d 139 52 ml r t Q else vc xs zH_139 n true d 139 118 ml r t Q) := by
  rw [vc_q (o := (20, 0, 118, 1, [])) (by decide +kernel)]; rfl
theorem v_139_52 (xs : Option (List Int32)) (n : Nat) (b : Bool) (d : Nat) (ml : List Value) (t : T) (Q : Option Value → T → Prop) (st : List Value) : vc xs zH_139 (n + 1) b d 139 52 ml st t Q = vga ml 0 (fun v => vc xs zH_139 n true d 139 53 ml (.ref v :: st) t Q) := by
  rw [vc_q (o := (2, 0, 0, 0, [])) (by decide +kernel)]; rfl
theorem v_139_53 (xs : Option (List Int32)) (n : Nat) (b : Bool) (d : Nat) (ml : List Value) (t : T) (Q : Option Value → T → Prop) (u : Nat) (r : List Value) : vc xs zH_139 (n + 1) b d 139 53 ml (.ref u :: r) t Q = (vtag u = 1 ∧ vc xs zH_139 n true d 139 56 ml (.ref (tref t u 0) :: r) t Q) := by
  rw [vc_q (o := (25, 0, 1, 0, [])) (by decide +kernel)]; rfl
theorem v_139_56 (xs : Option (List Int32)) (n : Nat) (b : Bool) (d : Nat) (ml : List Value) (t : T) (Q : Option Value → T → Prop) (st : List Value) : vc xs zH_139 (n + 1) b d 139 56 ml st t Q = vga ml 1 (fun v => vc xs zH_139 n true d 139 57 ml (.ref v :: st) t Q) := by
  rw [vc_q (o := (2, 0, 1, 0, [])) (by decide +kernel)]; rfl
theorem v_139_57 (xs : Option (List Int32)) (n : Nat) (b : Bool) (d : Nat) (ml : List Value) (t : T) (Q : Option Value → T → Prop) (u : Nat) (r : List Value) : vc xs zH_139 (n + 1) b d 139 57 ml (.ref u :: r) t Q = (vtag u = 2 ∧ vc xs zH_139 n true d 139 60 ml (.int (t.1 u 4) :: r) t Q) := by
  rw [vc_q (o := (24, 0, 2, 4, [])) (by decide +kernel)]; rfl
theorem v_139_60 (xs : Option (List Int32)) (n : Nat) (b : Bool) (d : Nat) (ml : List Value) (t : T) (Q : Option Value → T → Prop) (v : Int32) (u : Nat) (r : List Value) : vc xs zH_139 (n + 1) b d 139 60 ml (.int v :: .ref u :: r) t Q = (103 ≤ vtag u ∧ vtag u < 108 ∧ vinb v (vlen u) ∧ vc xs zH_139 n true d 139 61 ml (.ref (tref t u v.toNatClampNeg) :: r) t Q) := by
  rw [vc_q (o := (31, 0, 0, 0, [])) (by decide +kernel)]; rfl
theorem v_139_61 (xs : Option (List Int32)) (n : Nat) (b : Bool) (d : Nat) (ml : List Value) (t : T) (Q : Option Value → T → Prop) (v : Nat) (r : List Value) : vc xs zH_139 (n + 1) b d 139 61 ml (.ref v :: r) t Q = vset ml 3 (.ref v) (fun l => vc xs zH_139 n true d 139 62 l r t Q) := by
  rw [vc_q (o := (4, 0, 3, 0, [])) (by decide +kernel)]; rfl
theorem v_139_62 (xs : Option (List Int32)) (n : Nat) (b : Bool) (d : Nat) (ml : List Value) (t : T) (Q : Option Value → T → Prop) (st : List Value) : vc xs zH_139 (n + 1) b d 139 62 ml st t Q = vga ml 1 (fun v => vc xs zH_139 n true d 139 63 ml (.ref v :: st) t Q) := by
  rw [vc_q (o := (2, 0, 1, 0, [])) (by decide +kernel)]; rfl
theorem v_139_63 (xs : Option (List Int32)) (n : Nat) (b : Bool) (d : Nat) (ml : List Value) (t : T) (Q : Option Value → T → Prop) (st : List Value) : vc xs zH_139 (n + 1) b d 139 63 ml st t Q = vga ml 1 (fun v => vc xs zH_139 n true d 139 64 ml (.ref v :: st) t Q) := by
  rw [vc_q (o := (2, 0, 1, 0, [])) (by decide +kernel)]; rfl
theorem v_139_64 (xs : Option (List Int32)) (n : Nat) (b : Bool) (d : Nat) (ml : List Value) (t : T) (Q : Option Value → T → Prop) (u : Nat) (r : List Value) : vc xs zH_139 (n + 1) b d 139 64 ml (.ref u :: r) t Q = (vtag u = 2 ∧ vc xs zH_139 n true d 139 67 ml (.int (t.1 u 5) :: r) t Q) := by
  rw [vc_q (o := (24, 0, 2, 5, [])) (by decide +kernel)]; rfl
theorem v_139_67 (xs : Option (List Int32)) (n : Nat) (b : Bool) (d : Nat) (ml : List Value) (t : T) (Q : Option Value → T → Prop) (st : List Value) : vc xs zH_139 (n + 1) b d 139 67 ml st t Q = vga ml 3 (fun v => vc xs zH_139 n true d 139 68 ml (.ref v :: st) t Q) := by
  rw [vc_q (o := (2, 0, 3, 0, [])) (by decide +kernel)]; rfl
theorem v_139_68 (xs : Option (List Int32)) (n : Nat) (b : Bool) (d : Nat) (ml : List Value) (t : T) (Q : Option Value → T → Prop) (u : Nat) (r : List Value) : vc xs zH_139 (n + 1) b d 139 68 ml (.ref u :: r) t Q = (vtag u = 2 ∧ vc xs zH_139 n true d 139 71 ml (.int (t.1 u 5) :: r) t Q) := by
  rw [vc_q (o := (24, 0, 2, 5, [])) (by decide +kernel)]; rfl
theorem v_139_71 (xs : Option (List Int32)) (n : Nat) (b : Bool) (d : Nat) (ml : List Value) (t : T) (Q : Option Value → T → Prop) (st : List Value) : vc xs zH_139 (n + 1) b d 139 71 ml st t Q = vc xs zH_139 n true d 139 72 ml (.int 1 :: st) t Q := by
  rw [vc_q (o := (0, 1, 0, 0, [])) (by decide +kernel)]; rfl
theorem v_139_72 (xs : Option (List Int32)) (n : Nat) (b : Bool) (d : Nat) (ml : List Value) (t : T) (Q : Option Value → T → Prop) (u v : Int32) (r : List Value) : vc xs zH_139 (n + 1) b d 139 72 ml (.int v :: .int u :: r) t Q = vc xs zH_139 n true d 139 73 ml (.int (u + v) :: r) t Q := by
  rw [vc_q (o := (6, 0, 0, 0, [])) (by decide +kernel)]; rfl
theorem v_139_73 (xs : Option (List Int32)) (n : Nat) (b : Bool) (d : Nat) (ml : List Value) (t : T) (Q : Option Value → T → Prop) (u v : Int32) (r : List Value) : vc xs zH_139 (n + 1) b d 139 73 ml (.int v :: .int u :: r) t Q = (r.length ≤ 8 ∧ r.all zc1 = true ∧ vc xs zH_139 n true d 139 76 ml (.int (if u < v then v else u) :: r) t Q) := by
  rw [vc_q (o := (39, 0, 0, 0, [])) (by decide +kernel)]; rfl
theorem v_139_76 (xs : Option (List Int32)) (n : Nat) (b : Bool) (d : Nat) (ml : List Value) (t : T) (Q : Option Value → T → Prop) (v : Int32) (u : Nat) (r : List Value) : vc xs zH_139 (n + 1) b d 139 76 ml (.int v :: .ref u :: r) t Q = (vtag u = 2 ∧ vc xs zH_139 n true d 139 79 ml r (tsi t u 5 v) Q) := by
  rw [vc_q (o := (26, 0, 2, 5, [])) (by decide +kernel)]; rfl
theorem v_139_79 (xs : Option (List Int32)) (n : Nat) (b : Bool) (d : Nat) (ml : List Value) (t : T) (Q : Option Value → T → Prop) (st : List Value) : vc xs zH_139 (n + 1) b d 139 79 ml st t Q = vga ml 1 (fun v => vc xs zH_139 n true d 139 80 ml (.ref v :: st) t Q) := by
  rw [vc_q (o := (2, 0, 1, 0, [])) (by decide +kernel)]; rfl
theorem v_139_80 (xs : Option (List Int32)) (n : Nat) (b : Bool) (d : Nat) (ml : List Value) (t : T) (Q : Option Value → T → Prop) (st : List Value) : vc xs zH_139 (n + 1) b d 139 80 ml st t Q = vga ml 2 (fun v => vc xs zH_139 n true d 139 81 ml (.ref v :: st) t Q) := by
  rw [vc_q (o := (2, 0, 2, 0, [])) (by decide +kernel)]; rfl
theorem v_139_81 (xs : Option (List Int32)) (n : Nat) (b : Bool) (d : Nat) (ml : List Value) (t : T) (Q : Option Value → T → Prop) (u : Nat) (r : List Value) : vc xs zH_139 (n + 1) b d 139 81 ml (.ref u :: r) t Q = (vtag u = 2 ∧ vc xs zH_139 n true d 139 84 ml (.int (t.1 u 6) :: r) t Q) := by
  rw [vc_q (o := (24, 0, 2, 6, [])) (by decide +kernel)]; rfl
theorem v_139_84 (xs : Option (List Int32)) (n : Nat) (b : Bool) (d : Nat) (ml : List Value) (t : T) (Q : Option Value → T → Prop) (st : List Value) : vc xs zH_139 (n + 1) b d 139 84 ml st t Q = vga ml 3 (fun v => vc xs zH_139 n true d 139 85 ml (.ref v :: st) t Q) := by
  rw [vc_q (o := (2, 0, 3, 0, [])) (by decide +kernel)]; rfl
theorem v_139_85 (xs : Option (List Int32)) (n : Nat) (b : Bool) (d : Nat) (ml : List Value) (t : T) (Q : Option Value → T → Prop) (u : Nat) (r : List Value) : vc xs zH_139 (n + 1) b d 139 85 ml (.ref u :: r) t Q = (vtag u = 2 ∧ vc xs zH_139 n true d 139 88 ml (.int (t.1 u 6) :: r) t Q) := by
  rw [vc_q (o := (24, 0, 2, 6, [])) (by decide +kernel)]; rfl
theorem v_139_88 (xs : Option (List Int32)) (n : Nat) (b : Bool) (d : Nat) (ml : List Value) (t : T) (Q : Option Value → T → Prop) (u v : Int32) (r : List Value) : vc xs zH_139 (n + 1) b d 139 88 ml (.int v :: .int u :: r) t Q = vc xs zH_139 n true d 139 89 ml (.int (u ||| v) :: r) t Q := by
  rw [vc_q (o := (10, 0, 0, 0, [])) (by decide +kernel)]; rfl
theorem v_139_89 (xs : Option (List Int32)) (n : Nat) (b : Bool) (d : Nat) (ml : List Value) (t : T) (Q : Option Value → T → Prop) (v : Int32) (u : Nat) (r : List Value) : vc xs zH_139 (n + 1) b d 139 89 ml (.int v :: .ref u :: r) t Q = (vtag u = 2 ∧ vc xs zH_139 n true d 139 92 ml r (tsi t u 6 v) Q) := by
  rw [vc_q (o := (26, 0, 2, 6, [])) (by decide +kernel)]; rfl
theorem v_139_92 (xs : Option (List Int32)) (n : Nat) (b : Bool) (d : Nat) (ml : List Value) (t : T) (Q : Option Value → T → Prop) (st : List Value) : vc xs zH_139 (n + 1) b d 139 92 ml st t Q = vga ml 1 (fun v => vc xs zH_139 n true d 139 93 ml (.ref v :: st) t Q) := by
  rw [vc_q (o := (2, 0, 1, 0, [])) (by decide +kernel)]; rfl
theorem v_139_93 (xs : Option (List Int32)) (n : Nat) (b : Bool) (d : Nat) (ml : List Value) (t : T) (Q : Option Value → T → Prop) (st : List Value) : vc xs zH_139 (n + 1) b d 139 93 ml st t Q = vga ml 2 (fun v => vc xs zH_139 n true d 139 94 ml (.ref v :: st) t Q) := by
  rw [vc_q (o := (2, 0, 2, 0, [])) (by decide +kernel)]; rfl
theorem v_139_94 (xs : Option (List Int32)) (n : Nat) (b : Bool) (d : Nat) (ml : List Value) (t : T) (Q : Option Value → T → Prop) (u : Nat) (r : List Value) : vc xs zH_139 (n + 1) b d 139 94 ml (.ref u :: r) t Q = (vtag u = 2 ∧ vc xs zH_139 n true d 139 97 ml (.int (t.1 u 7) :: r) t Q) := by
  rw [vc_q (o := (24, 0, 2, 7, [])) (by decide +kernel)]; rfl
theorem v_139_97 (xs : Option (List Int32)) (n : Nat) (b : Bool) (d : Nat) (ml : List Value) (t : T) (Q : Option Value → T → Prop) (u : Int32) (r : List Value) : vc xs zH_139 (n + 1) b d 139 97 ml (.int u :: r) t Q = (if u = 0 then vc xs zH_139 n true d 139 100 ml r t Q else vc xs zH_139 n true d 139 107 ml r t Q) := by
  rw [vc_q (o := (21, 0, 107, 1, [])) (by decide +kernel)]; rfl
theorem v_139_100 (xs : Option (List Int32)) (n : Nat) (b : Bool) (d : Nat) (ml : List Value) (t : T) (Q : Option Value → T → Prop) (st : List Value) : vc xs zH_139 (n + 1) b d 139 100 ml st t Q = vga ml 3 (fun v => vc xs zH_139 n true d 139 101 ml (.ref v :: st) t Q) := by
  rw [vc_q (o := (2, 0, 3, 0, [])) (by decide +kernel)]; rfl
theorem v_139_101 (xs : Option (List Int32)) (n : Nat) (b : Bool) (d : Nat) (ml : List Value) (t : T) (Q : Option Value → T → Prop) (u : Nat) (r : List Value) : vc xs zH_139 (n + 1) b d 139 101 ml (.ref u :: r) t Q = (vtag u = 2 ∧ vc xs zH_139 n true d 139 104 ml (.int (t.1 u 7) :: r) t Q) := by
  rw [vc_q (o := (24, 0, 2, 7, [])) (by decide +kernel)]; rfl
theorem v_139_104 (xs : Option (List Int32)) (n : Nat) (b : Bool) (d : Nat) (ml : List Value) (t : T) (Q : Option Value → T → Prop) (u : Int32) (r : List Value) : vc xs zH_139 (n + 1) b d 139 104 ml (.int u :: r) t Q = (if u = 0 then vc xs zH_139 n true d 139 111 ml r t Q else vc xs zH_139 n true d 139 107 ml r t Q) := by
  rw [vc_q (o := (21, 0, 111, 0, [])) (by decide +kernel)]; rfl
theorem v_139_107 (xs : Option (List Int32)) (n : Nat) (b : Bool) (d : Nat) (ml : List Value) (t : T) (Q : Option Value → T → Prop) (st : List Value) : vc xs zH_139 (n + 1) b d 139 107 ml st t Q = vc xs zH_139 n true d 139 108 ml (.int 1 :: st) t Q := by
  rw [vc_q (o := (0, 1, 0, 0, [])) (by decide +kernel)]; rfl
theorem v_139_108 (xs : Option (List Int32)) (n : Nat) (b : Bool) (d : Nat) (ml : List Value) (t : T) (Q : Option Value → T → Prop) (st : List Value) : vc xs zH_139 (n + 1) b d 139 108 ml st t Q = vc xs zH_139 n true d 139 112 ml st t Q := by
  rw [vc_q (o := (22, 0, 112, 0, [])) (by decide +kernel)]; rfl
theorem v_139_111 (xs : Option (List Int32)) (n : Nat) (b : Bool) (d : Nat) (ml : List Value) (t : T) (Q : Option Value → T → Prop) (st : List Value) : vc xs zH_139 (n + 1) b d 139 111 ml st t Q = vc xs zH_139 n true d 139 112 ml (.int 0 :: st) t Q := by
  rw [vc_q (o := (0, 0, 0, 0, [])) (by decide +kernel)]; rfl
theorem v_139_112 (xs : Option (List Int32)) (n : Nat) (b : Bool) (d : Nat) (ml : List Value) (t : T) (Q : Option Value → T → Prop) (v : Int32) (u : Nat) (r : List Value) : vc xs zH_139 (n + 1) b d 139 112 ml (.int v :: .ref u :: r) t Q = (vtag u = 2 ∧ (v = 0 ∨ v = 1) ∧ vc xs zH_139 n true d 139 115 ml r (tsi t u 7 v) Q) := by
  rw [vc_q (o := (27, 0, 2, 7, [])) (by decide +kernel)]; rfl
theorem v_139_115 (xs : Option (List Int32)) (n : Nat) (b : Bool) (d : Nat) (ml : List Value) (t : T) (Q : Option Value → T → Prop) (st : List Value) : vc xs zH_139 (n + 1) b d 139 115 ml st t Q = vc xs zH_139 n true d 139 195 ml st t Q := by
  rw [vc_q (o := (22, 0, 195, 0, [])) (by decide +kernel)]; rfl
theorem v_139_118 (xs : Option (List Int32)) (n : Nat) (b : Bool) (d : Nat) (ml : List Value) (t : T) (Q : Option Value → T → Prop) (st : List Value) : vc xs zH_139 (n + 1) b d 139 118 ml st t Q = vga ml 1 (fun v => vc xs zH_139 n true d 139 119 ml (.ref v :: st) t Q) := by
  rw [vc_q (o := (2, 0, 1, 0, [])) (by decide +kernel)]; rfl
theorem v_139_119 (xs : Option (List Int32)) (n : Nat) (b : Bool) (d : Nat) (ml : List Value) (t : T) (Q : Option Value → T → Prop) (u : Nat) (r : List Value) : vc xs zH_139 (n + 1) b d 139 119 ml (.ref u :: r) t Q = (vtag u = 2 ∧ vc xs zH_139 n true d 139 122 ml (.int (t.1 u 0) :: r) t Q) := by
  rw [vc_q (o := (24, 0, 2, 0, [])) (by decide +kernel)]; rfl
theorem v_139_122 (xs : Option (List Int32)) (n : Nat) (b : Bool) (d : Nat) (ml : List Value) (t : T) (Q : Option Value → T → Prop) (st : List Value) : vc xs zH_139 (n + 1) b d 139 122 ml st t Q = vc xs zH_139 n true d 139 124 ml (.int 6 :: st) t Q := by
  rw [vc_q (o := (0, 6, 1, 0, [])) (by decide +kernel)]; rfl
theorem v_139_124 (xs : Option (List Int32)) (n : Nat) (b : Bool) (d : Nat) (ml : List Value) (t : T) (Q : Option Value → T → Prop) (u v : Int32) (r : List Value) : vc xs zH_139 (n + 1) b d 139 124 ml (.int v :: .int u :: r) t Q = (if u = v then vc xs zH_139 n true d 139 136 ml r t Q else vc xs zH_139 n true d 139 127 ml r t Q) := by
  rw [vc_q (o := (20, 0, 136, 0, [])) (by decide +kernel)]; rfl
theorem v_139_127 (xs : Option (List Int32)) (n : Nat) (b : Bool) (d : Nat) (ml : List Value) (t : T) (Q : Option Value → T → Prop) (st : List Value) : vc xs zH_139 (n + 1) b d 139 127 ml st t Q = vga ml 1 (fun v => vc xs zH_139 n true d 139 128 ml (.ref v :: st) t Q) := by
  rw [vc_q (o := (2, 0, 1, 0, [])) (by decide +kernel)]; rfl
theorem v_139_128 (xs : Option (List Int32)) (n : Nat) (b : Bool) (d : Nat) (ml : List Value) (t : T) (Q : Option Value → T → Prop) (u : Nat) (r : List Value) : vc xs zH_139 (n + 1) b d 139 128 ml (.ref u :: r) t Q = (vtag u = 2 ∧ vc xs zH_139 n true d 139 131 ml (.int (t.1 u 0) :: r) t Q) := by
  rw [vc_q (o := (24, 0, 2, 0, [])) (by decide +kernel)]; rfl
theorem v_139_131 (xs : Option (List Int32)) (n : Nat) (b : Bool) (d : Nat) (ml : List Value) (t : T) (Q : Option Value → T → Prop) (st : List Value) : vc xs zH_139 (n + 1) b d 139 131 ml st t Q = vc xs zH_139 n true d 139 133 ml (.int 7 :: st) t Q := by
  rw [vc_q (o := (0, 7, 1, 0, [])) (by decide +kernel)]; rfl
theorem v_139_133 (xs : Option (List Int32)) (n : Nat) (b : Bool) (d : Nat) (ml : List Value) (t : T) (Q : Option Value → T → Prop) (u v : Int32) (r : List Value) : vc xs zH_139 (n + 1) b d 139 133 ml (.int v :: .int u :: r) t Q = (if u = v then vc xs zH_139 n true d 139 136 ml r t Q else vc xs zH_139 n true d 139 156 ml r t Q) := by
  rw [vc_q (o := (20, 0, 156, 1, [])) (by decide +kernel)]; rfl
theorem v_139_136 (xs : Option (List Int32)) (n : Nat) (b : Bool) (d : Nat) (ml : List Value) (t : T) (Q : Option Value → T → Prop) (st : List Value) : vc xs zH_139 (n + 1) b d 139 136 ml st t Q = vga ml 1 (fun v => vc xs zH_139 n true d 139 137 ml (.ref v :: st) t Q) := by
  rw [vc_q (o := (2, 0, 1, 0, [])) (by decide +kernel)]; rfl
theorem v_139_137 (xs : Option (List Int32)) (n : Nat) (b : Bool) (d : Nat) (ml : List Value) (t : T) (Q : Option Value → T → Prop) (st : List Value) : vc xs zH_139 (n + 1) b d 139 137 ml st t Q = vga ml 2 (fun v => vc xs zH_139 n true d 139 138 ml (.ref v :: st) t Q) := by
  rw [vc_q (o := (2, 0, 2, 0, [])) (by decide +kernel)]; rfl
theorem v_139_138 (xs : Option (List Int32)) (n : Nat) (b : Bool) (d : Nat) (ml : List Value) (t : T) (Q : Option Value → T → Prop) (u : Nat) (r : List Value) : vc xs zH_139 (n + 1) b d 139 138 ml (.ref u :: r) t Q = (vtag u = 2 ∧ vc xs zH_139 n true d 139 141 ml (.int (t.1 u 6) :: r) t Q) := by
  rw [vc_q (o := (24, 0, 2, 6, [])) (by decide +kernel)]; rfl
theorem v_139_141 (xs : Option (List Int32)) (n : Nat) (b : Bool) (d : Nat) (ml : List Value) (t : T) (Q : Option Value → T → Prop) (st : List Value) : vc xs zH_139 (n + 1) b d 139 141 ml st t Q = vc xs zH_139 n true d 139 142 ml (.int 1 :: st) t Q := by
  rw [vc_q (o := (0, 1, 0, 0, [])) (by decide +kernel)]; rfl
theorem v_139_142 (xs : Option (List Int32)) (n : Nat) (b : Bool) (d : Nat) (ml : List Value) (t : T) (Q : Option Value → T → Prop) (st : List Value) : vc xs zH_139 (n + 1) b d 139 142 ml st t Q = vga ml 1 (fun v => vc xs zH_139 n true d 139 143 ml (.ref v :: st) t Q) := by
  rw [vc_q (o := (2, 0, 1, 0, [])) (by decide +kernel)]; rfl
theorem v_139_143 (xs : Option (List Int32)) (n : Nat) (b : Bool) (d : Nat) (ml : List Value) (t : T) (Q : Option Value → T → Prop) (u : Nat) (r : List Value) : vc xs zH_139 (n + 1) b d 139 143 ml (.ref u :: r) t Q = (vtag u = 2 ∧ vc xs zH_139 n true d 139 146 ml (.int (t.1 u 1) :: r) t Q) := by
  rw [vc_q (o := (24, 0, 2, 1, [])) (by decide +kernel)]; rfl
theorem v_139_146 (xs : Option (List Int32)) (n : Nat) (b : Bool) (d : Nat) (ml : List Value) (t : T) (Q : Option Value → T → Prop) (u v : Int32) (r : List Value) : vc xs zH_139 (n + 1) b d 139 146 ml (.int v :: .int u :: r) t Q = vc xs zH_139 n true d 139 147 ml (.int (u <<< (v &&& 31)) :: r) t Q := by
  rw [vc_q (o := (12, 0, 0, 0, [])) (by decide +kernel)]; rfl
theorem v_139_147 (xs : Option (List Int32)) (n : Nat) (b : Bool) (d : Nat) (ml : List Value) (t : T) (Q : Option Value → T → Prop) (st : List Value) : vc xs zH_139 (n + 1) b d 139 147 ml st t Q = vc xs zH_139 n true d 139 148 ml (.int (-1) :: st) t Q := by
  rw [vc_q (o := (0, (-1), 0, 0, [])) (by decide +kernel)]; rfl
theorem v_139_148 (xs : Option (List Int32)) (n : Nat) (b : Bool) (d : Nat) (ml : List Value) (t : T) (Q : Option Value → T → Prop) (u v : Int32) (r : List Value) : vc xs zH_139 (n + 1) b d 139 148 ml (.int v :: .int u :: r) t Q = vc xs zH_139 n true d 139 149 ml (.int (u ^^^ v) :: r) t Q := by
  rw [vc_q (o := (11, 0, 0, 0, [])) (by decide +kernel)]; rfl
theorem v_139_149 (xs : Option (List Int32)) (n : Nat) (b : Bool) (d : Nat) (ml : List Value) (t : T) (Q : Option Value → T → Prop) (u v : Int32) (r : List Value) : vc xs zH_139 (n + 1) b d 139 149 ml (.int v :: .int u :: r) t Q = vc xs zH_139 n true d 139 150 ml (.int (u &&& v) :: r) t Q := by
  rw [vc_q (o := (9, 0, 0, 0, [])) (by decide +kernel)]; rfl
theorem v_139_150 (xs : Option (List Int32)) (n : Nat) (b : Bool) (d : Nat) (ml : List Value) (t : T) (Q : Option Value → T → Prop) (v : Int32) (u : Nat) (r : List Value) : vc xs zH_139 (n + 1) b d 139 150 ml (.int v :: .ref u :: r) t Q = (vtag u = 2 ∧ vc xs zH_139 n true d 139 153 ml r (tsi t u 6 v) Q) := by
  rw [vc_q (o := (26, 0, 2, 6, [])) (by decide +kernel)]; rfl
theorem v_139_153 (xs : Option (List Int32)) (n : Nat) (b : Bool) (d : Nat) (ml : List Value) (t : T) (Q : Option Value → T → Prop) (st : List Value) : vc xs zH_139 (n + 1) b d 139 153 ml st t Q = vc xs zH_139 n true d 139 195 ml st t Q := by
  rw [vc_q (o := (22, 0, 195, 0, [])) (by decide +kernel)]; rfl
theorem v_139_156 (xs : Option (List Int32)) (n : Nat) (b : Bool) (d : Nat) (ml : List Value) (t : T) (Q : Option Value → T → Prop) (st : List Value) : vc xs zH_139 (n + 1) b d 139 156 ml st t Q = vga ml 1 (fun v => vc xs zH_139 n true d 139 157 ml (.ref v :: st) t Q) := by
  rw [vc_q (o := (2, 0, 1, 0, [])) (by decide +kernel)]; rfl
theorem v_139_157 (xs : Option (List Int32)) (n : Nat) (b : Bool) (d : Nat) (ml : List Value) (t : T) (Q : Option Value → T → Prop) (u : Nat) (r : List Value) : vc xs zH_139 (n + 1) b d 139 157 ml (.ref u :: r) t Q = (vtag u = 2 ∧ vc xs zH_139 n true d 139 160 ml (.int (t.1 u 0) :: r) t Q) := by
  rw [vc_q (o := (24, 0, 2, 0, [])) (by decide +kernel)]; rfl
theorem v_139_160 (xs : Option (List Int32)) (n : Nat) (b : Bool) (d : Nat) (ml : List Value) (t : T) (Q : Option Value → T → Prop) (st : List Value) : vc xs zH_139 (n + 1) b d 139 160 ml st t Q = vc xs zH_139 n true d 139 162 ml (.int 8 :: st) t Q := by
  rw [vc_q (o := (0, 8, 1, 0, [])) (by decide +kernel)]; rfl
theorem v_139_162 (xs : Option (List Int32)) (n : Nat) (b : Bool) (d : Nat) (ml : List Value) (t : T) (Q : Option Value → T → Prop) (u v : Int32) (r : List Value) : vc xs zH_139 (n + 1) b d 139 162 ml (.int v :: .int u :: r) t Q = (if u = v then vc xs zH_139 n true d 139 165 ml r t Q else vc xs zH_139 n true d 139 195 ml r t Q) := by
  rw [vc_q (o := (20, 0, 195, 1, [])) (by decide +kernel)]; rfl
theorem v_139_165 (xs : Option (List Int32)) (n : Nat) (b : Bool) (d : Nat) (ml : List Value) (t : T) (Q : Option Value → T → Prop) (st : List Value) : vc xs zH_139 (n + 1) b d 139 165 ml st t Q = vga ml 1 (fun v => vc xs zH_139 n true d 139 166 ml (.ref v :: st) t Q) := by
  rw [vc_q (o := (2, 0, 1, 0, [])) (by decide +kernel)]; rfl
theorem v_139_166 (xs : Option (List Int32)) (n : Nat) (b : Bool) (d : Nat) (ml : List Value) (t : T) (Q : Option Value → T → Prop) (st : List Value) : vc xs zH_139 (n + 1) b d 139 166 ml st t Q = vga ml 2 (fun v => vc xs zH_139 n true d 139 167 ml (.ref v :: st) t Q) := by
  rw [vc_q (o := (2, 0, 2, 0, [])) (by decide +kernel)]; rfl
theorem v_139_167 (xs : Option (List Int32)) (n : Nat) (b : Bool) (d : Nat) (ml : List Value) (t : T) (Q : Option Value → T → Prop) (u : Nat) (r : List Value) : vc xs zH_139 (n + 1) b d 139 167 ml (.ref u :: r) t Q = (vtag u = 2 ∧ vc xs zH_139 n true d 139 170 ml (.int (t.1 u 6) :: r) t Q) := by
  rw [vc_q (o := (24, 0, 2, 6, [])) (by decide +kernel)]; rfl
theorem v_139_170 (xs : Option (List Int32)) (n : Nat) (b : Bool) (d : Nat) (ml : List Value) (t : T) (Q : Option Value → T → Prop) (st : List Value) : vc xs zH_139 (n + 1) b d 139 170 ml st t Q = vc xs zH_139 n true d 139 172 ml (.int (-49) :: st) t Q := by
  rw [vc_q (o := (0, (-49), 1, 0, [])) (by decide +kernel)]; rfl
theorem v_139_172 (xs : Option (List Int32)) (n : Nat) (b : Bool) (d : Nat) (ml : List Value) (t : T) (Q : Option Value → T → Prop) (u v : Int32) (r : List Value) : vc xs zH_139 (n + 1) b d 139 172 ml (.int v :: .int u :: r) t Q = vc xs zH_139 n true d 139 173 ml (.int (u &&& v) :: r) t Q := by
  rw [vc_q (o := (9, 0, 0, 0, [])) (by decide +kernel)]; rfl
theorem v_139_173 (xs : Option (List Int32)) (n : Nat) (b : Bool) (d : Nat) (ml : List Value) (t : T) (Q : Option Value → T → Prop) (st : List Value) : vc xs zH_139 (n + 1) b d 139 173 ml st t Q = vc xs zH_139 n true d 139 174 ml (.int 1 :: st) t Q := by
  rw [vc_q (o := (0, 1, 0, 0, [])) (by decide +kernel)]; rfl
theorem v_139_174 (xs : Option (List Int32)) (n : Nat) (b : Bool) (d : Nat) (ml : List Value) (t : T) (Q : Option Value → T → Prop) (st : List Value) : vc xs zH_139 (n + 1) b d 139 174 ml st t Q = vga ml 1 (fun v => vc xs zH_139 n true d 139 175 ml (.ref v :: st) t Q) := by
  rw [vc_q (o := (2, 0, 1, 0, [])) (by decide +kernel)]; rfl
theorem v_139_175 (xs : Option (List Int32)) (n : Nat) (b : Bool) (d : Nat) (ml : List Value) (t : T) (Q : Option Value → T → Prop) (u : Nat) (r : List Value) : vc xs zH_139 (n + 1) b d 139 175 ml (.ref u :: r) t Q = (vtag u = 2 ∧ vc xs zH_139 n true d 139 178 ml (.int (t.1 u 1) :: r) t Q) := by
  rw [vc_q (o := (24, 0, 2, 1, [])) (by decide +kernel)]; rfl
theorem v_139_178 (xs : Option (List Int32)) (n : Nat) (b : Bool) (d : Nat) (ml : List Value) (t : T) (Q : Option Value → T → Prop) (u v : Int32) (r : List Value) : vc xs zH_139 (n + 1) b d 139 178 ml (.int v :: .int u :: r) t Q = vc xs zH_139 n true d 139 179 ml (.int (u <<< (v &&& 31)) :: r) t Q := by
  rw [vc_q (o := (12, 0, 0, 0, [])) (by decide +kernel)]; rfl
theorem v_139_179 (xs : Option (List Int32)) (n : Nat) (b : Bool) (d : Nat) (ml : List Value) (t : T) (Q : Option Value → T → Prop) (u v : Int32) (r : List Value) : vc xs zH_139 (n + 1) b d 139 179 ml (.int v :: .int u :: r) t Q = vc xs zH_139 n true d 139 180 ml (.int (u ||| v) :: r) t Q := by
  rw [vc_q (o := (10, 0, 0, 0, [])) (by decide +kernel)]; rfl
theorem v_139_180 (xs : Option (List Int32)) (n : Nat) (b : Bool) (d : Nat) (ml : List Value) (t : T) (Q : Option Value → T → Prop) (st : List Value) : vc xs zH_139 (n + 1) b d 139 180 ml st t Q = vc xs zH_139 n true d 139 181 ml (.int 1 :: st) t Q := by
  rw [vc_q (o := (0, 1, 0, 0, [])) (by decide +kernel)]; rfl
theorem v_139_181 (xs : Option (List Int32)) (n : Nat) (b : Bool) (d : Nat) (ml : List Value) (t : T) (Q : Option Value → T → Prop) (st : List Value) : vc xs zH_139 (n + 1) b d 139 181 ml st t Q = vga ml 1 (fun v => vc xs zH_139 n true d 139 182 ml (.ref v :: st) t Q) := by
  rw [vc_q (o := (2, 0, 1, 0, [])) (by decide +kernel)]; rfl
theorem v_139_182 (xs : Option (List Int32)) (n : Nat) (b : Bool) (d : Nat) (ml : List Value) (t : T) (Q : Option Value → T → Prop) (u : Nat) (r : List Value) : vc xs zH_139 (n + 1) b d 139 182 ml (.ref u :: r) t Q = (vtag u = 2 ∧ vc xs zH_139 n true d 139 185 ml (.int (t.1 u 2) :: r) t Q) := by
  rw [vc_q (o := (24, 0, 2, 2, [])) (by decide +kernel)]; rfl
theorem v_139_185 (xs : Option (List Int32)) (n : Nat) (b : Bool) (d : Nat) (ml : List Value) (t : T) (Q : Option Value → T → Prop) (u v : Int32) (r : List Value) : vc xs zH_139 (n + 1) b d 139 185 ml (.int v :: .int u :: r) t Q = vc xs zH_139 n true d 139 186 ml (.int (u <<< (v &&& 31)) :: r) t Q := by
  rw [vc_q (o := (12, 0, 0, 0, [])) (by decide +kernel)]; rfl
theorem v_139_186 (xs : Option (List Int32)) (n : Nat) (b : Bool) (d : Nat) (ml : List Value) (t : T) (Q : Option Value → T → Prop) (u v : Int32) (r : List Value) : vc xs zH_139 (n + 1) b d 139 186 ml (.int v :: .int u :: r) t Q = vc xs zH_139 n true d 139 187 ml (.int (u ||| v) :: r) t Q := by
  rw [vc_q (o := (10, 0, 0, 0, [])) (by decide +kernel)]; rfl
theorem v_139_187 (xs : Option (List Int32)) (n : Nat) (b : Bool) (d : Nat) (ml : List Value) (t : T) (Q : Option Value → T → Prop) (v : Int32) (u : Nat) (r : List Value) : vc xs zH_139 (n + 1) b d 139 187 ml (.int v :: .ref u :: r) t Q = (vtag u = 2 ∧ vc xs zH_139 n true d 139 190 ml r (tsi t u 6 v) Q) := by
  rw [vc_q (o := (26, 0, 2, 6, [])) (by decide +kernel)]; rfl
theorem v_139_190 (xs : Option (List Int32)) (n : Nat) (b : Bool) (d : Nat) (ml : List Value) (t : T) (Q : Option Value → T → Prop) (st : List Value) : vc xs zH_139 (n + 1) b d 139 190 ml st t Q = vga ml 1 (fun v => vc xs zH_139 n true d 139 191 ml (.ref v :: st) t Q) := by
  rw [vc_q (o := (2, 0, 1, 0, [])) (by decide +kernel)]; rfl
theorem v_139_191 (xs : Option (List Int32)) (n : Nat) (b : Bool) (d : Nat) (ml : List Value) (t : T) (Q : Option Value → T → Prop) (st : List Value) : vc xs zH_139 (n + 1) b d 139 191 ml st t Q = vc xs zH_139 n true d 139 192 ml (.int 1 :: st) t Q := by
  rw [vc_q (o := (0, 1, 0, 0, [])) (by decide +kernel)]; rfl
theorem v_139_192 (xs : Option (List Int32)) (n : Nat) (b : Bool) (d : Nat) (ml : List Value) (t : T) (Q : Option Value → T → Prop) (v : Int32) (u : Nat) (r : List Value) : vc xs zH_139 (n + 1) b d 139 192 ml (.int v :: .ref u :: r) t Q = (vtag u = 2 ∧ (v = 0 ∨ v = 1) ∧ vc xs zH_139 n true d 139 195 ml r (tsi t u 7 v) Q) := by
  rw [vc_q (o := (27, 0, 2, 7, [])) (by decide +kernel)]; rfl
theorem v_139_195 (xs : Option (List Int32)) (n : Nat) (d : Nat) (ml : List Value) (t : T) (Q : Option Value → T → Prop)  : vc xs zH_139 (n + 1) false d 139 195 ml [] t Q = Q none t := by
  rw [vc_q (o := (43, 0, 0, 0, [])) (by decide +kernel)]; rfl
theorem h_139_195 (xs : Option (List Int32)) (n d : Nat) (ml st : List Value) (t : T) (Q : Option Value → T → Prop) : vc xs zH_139 (n + 1) true d 139 195 ml st t Q = twp xs d 139 195 ml st t Q := id rfl
def zH_141 : List Nat := [27, 41]
theorem v_141_0 (xs : Option (List Int32)) (n : Nat) (b : Bool) (d : Nat) (ml : List Value) (t : T) (Q : Option Value → T → Prop) (st : List Value) : vc xs zH_141 (n + 1) b d 141 0 ml st t Q = vga ml 0 (fun v => vc xs zH_141 n true d 141 1 ml (.ref v :: st) t Q) := by
  rw [vc_q (o := (2, 0, 0, 0, [])) (by decide +kernel)]; rfl
theorem v_141_1 (xs : Option (List Int32)) (n : Nat) (b : Bool) (d : Nat) (ml : List Value) (t : T) (Q : Option Value → T → Prop) (u : Nat) (r : List Value) : vc xs zH_141 (n + 1) b d 141 1 ml (.ref u :: r) t Q = (vtag u = 9 ∧ vc xs zH_141 n true d 141 4 ml (.ref (tref t u 0) :: r) t Q) := by
  rw [vc_q (o := (25, 0, 9, 0, [])) (by decide +kernel)]; rfl
theorem v_141_4 (xs : Option (List Int32)) (n : Nat) (b : Bool) (d : Nat) (ml : List Value) (t : T) (Q : Option Value → T → Prop) (st : List Value) : vc xs zH_141 (n + 1) b d 141 4 ml st t Q = vga ml 1 (fun v => vc xs zH_141 n true d 141 5 ml (.ref v :: st) t Q) := by
  rw [vc_q (o := (2, 0, 1, 0, [])) (by decide +kernel)]; rfl
theorem v_141_5 (xs : Option (List Int32)) (n : Nat) (b : Bool) (d : Nat) (ml : List Value) (t : T) (Q : Option Value → T → Prop) (st : List Value) : vc xs zH_141 (n + 1) b d 141 5 ml st t Q = (st.all zc1 = true ∧ vtk 2 st [] (fun as rest => rest.length ≤ 8 ∧ vrc as 4 (twc d 168 as t (fun r t' => vc xs zH_141 n true d 141 8 ml (r.toList ++ rest) t' Q)))) := by
  rw [vc_q (o := (36, 0, 168, 1, [(0, 4)])) (by decide +kernel)]; rfl
theorem v_141_8 (xs : Option (List Int32)) (n : Nat) (b : Bool) (d : Nat) (ml : List Value) (t : T) (Q : Option Value → T → Prop) (st : List Value) : vc xs zH_141 (n + 1) b d 141 8 ml st t Q = vga ml 0 (fun v => vc xs zH_141 n true d 141 9 ml (.ref v :: st) t Q) := by
  rw [vc_q (o := (2, 0, 0, 0, [])) (by decide +kernel)]; rfl
theorem v_141_9 (xs : Option (List Int32)) (n : Nat) (b : Bool) (d : Nat) (ml : List Value) (t : T) (Q : Option Value → T → Prop) (u : Nat) (r : List Value) : vc xs zH_141 (n + 1) b d 141 9 ml (.ref u :: r) t Q = (vtag u = 9 ∧ vc xs zH_141 n true d 141 12 ml (.ref (tref t u 0) :: r) t Q) := by
  rw [vc_q (o := (25, 0, 9, 0, [])) (by decide +kernel)]; rfl
theorem v_141_12 (xs : Option (List Int32)) (n : Nat) (b : Bool) (d : Nat) (ml : List Value) (t : T) (Q : Option Value → T → Prop) (u : Nat) (r : List Value) : vc xs zH_141 (n + 1) b d 141 12 ml (.ref u :: r) t Q = (vtag u = 4 ∧ vc xs zH_141 n true d 141 15 ml (.int (t.1 u 0) :: r) t Q) := by
  rw [vc_q (o := (24, 0, 4, 0, [])) (by decide +kernel)]; rfl
theorem v_141_15 (xs : Option (List Int32)) (n : Nat) (b : Bool) (d : Nat) (ml : List Value) (t : T) (Q : Option Value → T → Prop) (v : Int32) (r : List Value) : vc xs zH_141 (n + 1) b d 141 15 ml (.int v :: r) t Q = vset ml 2 (.int v) (fun l => vc xs zH_141 n true d 141 16 l r t Q) := by
  rw [vc_q (o := (3, 0, 2, 0, [])) (by decide +kernel)]; rfl
theorem v_141_16 (xs : Option (List Int32)) (n : Nat) (b : Bool) (d : Nat) (ml : List Value) (t : T) (Q : Option Value → T → Prop) (st : List Value) : vc xs zH_141 (n + 1) b d 141 16 ml st t Q = vga ml 1 (fun v => vc xs zH_141 n true d 141 17 ml (.ref v :: st) t Q) := by
  rw [vc_q (o := (2, 0, 1, 0, [])) (by decide +kernel)]; rfl
theorem v_141_17 (xs : Option (List Int32)) (n : Nat) (b : Bool) (d : Nat) (ml : List Value) (t : T) (Q : Option Value → T → Prop) (st : List Value) : vc xs zH_141 (n + 1) b d 141 17 ml st t Q = vga ml 0 (fun v => vc xs zH_141 n true d 141 18 ml (.ref v :: st) t Q) := by
  rw [vc_q (o := (2, 0, 0, 0, [])) (by decide +kernel)]; rfl
theorem v_141_18 (xs : Option (List Int32)) (n : Nat) (b : Bool) (d : Nat) (ml : List Value) (t : T) (Q : Option Value → T → Prop) (st : List Value) : vc xs zH_141 (n + 1) b d 141 18 ml st t Q = vgi ml 2 (fun v => vc xs zH_141 n true d 141 19 ml (.int v :: st) t Q) := by
  rw [vc_q (o := (1, 0, 2, 0, [])) (by decide +kernel)]; rfl
theorem v_141_19 (xs : Option (List Int32)) (n : Nat) (b : Bool) (d : Nat) (ml : List Value) (t : T) (Q : Option Value → T → Prop) (st : List Value) : vc xs zH_141 (n + 1) b d 141 19 ml st t Q = (st.all zc1 = true ∧ vtk 2 st [] (fun as rest => rest.length ≤ 8 ∧ vrc as 9 (twc d 142 as t (fun r t' => vc xs zH_141 n true d 141 22 ml (r.toList ++ rest) t' Q)))) := by
  rw [vc_q (o := (36, 0, 142, 1, [(0, 9)])) (by decide +kernel)]; rfl
theorem v_141_22 (xs : Option (List Int32)) (n : Nat) (b : Bool) (d : Nat) (ml : List Value) (t : T) (Q : Option Value → T → Prop) (st : List Value) : vc xs zH_141 (n + 1) b d 141 22 ml st t Q = (st.all zc1 = true ∧ vtk 2 st [] (fun as rest => rest.length ≤ 8 ∧ vrc as 4 (twc d 167 as t (fun r t' => vc xs zH_141 n true d 141 25 ml (r.toList ++ rest) t' Q)))) := by
  rw [vc_q (o := (36, 0, 167, 1, [(0, 4)])) (by decide +kernel)]; rfl
theorem v_141_25 (xs : Option (List Int32)) (n : Nat) (b : Bool) (d : Nat) (ml : List Value) (t : T) (Q : Option Value → T → Prop) (st : List Value) : vc xs zH_141 (n + 1) b d 141 25 ml st t Q = vc xs zH_141 n true d 141 26 ml (.int 0 :: st) t Q := by
  rw [vc_q (o := (0, 0, 0, 0, [])) (by decide +kernel)]; rfl
theorem v_141_26 (xs : Option (List Int32)) (n : Nat) (b : Bool) (d : Nat) (ml : List Value) (t : T) (Q : Option Value → T → Prop) (v : Int32) (r : List Value) : vc xs zH_141 (n + 1) b d 141 26 ml (.int v :: r) t Q = vset ml 3 (.int v) (fun l => vc xs zH_141 n true d 141 27 l r t Q) := by
  rw [vc_q (o := (3, 0, 3, 0, [])) (by decide +kernel)]; rfl
theorem v_141_27 (xs : Option (List Int32)) (n : Nat) (d : Nat) (ml : List Value) (t : T) (Q : Option Value → T → Prop) (st : List Value) : vc xs zH_141 (n + 1) false d 141 27 ml st t Q = vgi ml 3 (fun v => vc xs zH_141 n true d 141 28 ml (.int v :: st) t Q) := by
  rw [vc_q (o := (1, 0, 3, 0, [])) (by decide +kernel)]; rfl
theorem h_141_27 (xs : Option (List Int32)) (n d : Nat) (ml st : List Value) (t : T) (Q : Option Value → T → Prop) : vc xs zH_141 (n + 1) true d 141 27 ml st t Q = twp xs d 141 27 ml st t Q := id rfl
theorem v_141_28 (xs : Option (List Int32)) (n : Nat) (b : Bool) (d : Nat) (ml : List Value) (t : T) (Q : Option Value → T → Prop) (st : List Value) : vc xs zH_141 (n + 1) b d 141 28 ml st t Q = vgi ml 2 (fun v => vc xs zH_141 n true d 141 29 ml (.int v :: st) t Q) := by
  rw [vc_q (o := (1, 0, 2, 0, [])) (by decide +kernel)]; rfl
theorem v_141_29 (xs : Option (List Int32)) (n : Nat) (b : Bool) (d : Nat) (ml : List Value) (t : T) (Q : Option Value → T → Prop) (u v : Int32) (r : List Value) : vc xs zH_141 (n + 1) b d 141 29 ml (.int v :: .int u :: r) t Q = (if u < v then vc xs zH_141 n true d 141 32 ml r t Q else vc xs zH_141 n true d 141 67 ml r t Q) := by
  rw [vc_q (o := (20, 0, 67, 3, [])) (by decide +kernel)]; rfl
theorem v_141_32 (xs : Option (List Int32)) (n : Nat) (b : Bool) (d : Nat) (ml : List Value) (t : T) (Q : Option Value → T → Prop) (st : List Value) : vc xs zH_141 (n + 1) b d 141 32 ml st t Q = vga ml 0 (fun v => vc xs zH_141 n true d 141 33 ml (.ref v :: st) t Q) := by
  rw [vc_q (o := (2, 0, 0, 0, [])) (by decide +kernel)]; rfl
theorem v_141_33 (xs : Option (List Int32)) (n : Nat) (b : Bool) (d : Nat) (ml : List Value) (t : T) (Q : Option Value → T → Prop) (st : List Value) : vc xs zH_141 (n + 1) b d 141 33 ml st t Q = vga ml 1 (fun v => vc xs zH_141 n true d 141 34 ml (.ref v :: st) t Q) := by
  rw [vc_q (o := (2, 0, 1, 0, [])) (by decide +kernel)]; rfl
theorem v_141_34 (xs : Option (List Int32)) (n : Nat) (b : Bool) (d : Nat) (ml : List Value) (t : T) (Q : Option Value → T → Prop) (st : List Value) : vc xs zH_141 (n + 1) b d 141 34 ml st t Q = vgi ml 3 (fun v => vc xs zH_141 n true d 141 35 ml (.int v :: st) t Q) := by
  rw [vc_q (o := (1, 0, 3, 0, [])) (by decide +kernel)]; rfl
theorem v_141_35 (xs : Option (List Int32)) (n : Nat) (b : Bool) (d : Nat) (ml : List Value) (t : T) (Q : Option Value → T → Prop) (st : List Value) : vc xs zH_141 (n + 1) b d 141 35 ml st t Q = (st.all zc1 = true ∧ vtk 3 st [] (fun as rest => rest.length ≤ 8 ∧ vrc as 9 (twc d 144 as t (fun r t' => vc xs zH_141 n true d 141 38 ml (r.toList ++ rest) t' Q)))) := by
  rw [vc_q (o := (36, 0, 144, 2, [(0, 9)])) (by decide +kernel)]; rfl
theorem v_141_38 (xs : Option (List Int32)) (n : Nat) (b : Bool) (d : Nat) (ml : List Value) (t : T) (Q : Option Value → T → Prop) (st : List Value) : vc xs zH_141 (n + 1) b d 141 38 ml st t Q = vc xs zH_141 n true d 141 39 ml (.int 0 :: st) t Q := by
  rw [vc_q (o := (0, 0, 0, 0, [])) (by decide +kernel)]; rfl
theorem v_141_39 (xs : Option (List Int32)) (n : Nat) (b : Bool) (d : Nat) (ml : List Value) (t : T) (Q : Option Value → T → Prop) (v : Int32) (r : List Value) : vc xs zH_141 (n + 1) b d 141 39 ml (.int v :: r) t Q = vset ml 4 (.int v) (fun l => vc xs zH_141 n true d 141 41 l r t Q) := by
  rw [vc_q (o := (3, 0, 4, 1, [])) (by decide +kernel)]; rfl
theorem v_141_41 (xs : Option (List Int32)) (n : Nat) (d : Nat) (ml : List Value) (t : T) (Q : Option Value → T → Prop) (st : List Value) : vc xs zH_141 (n + 1) false d 141 41 ml st t Q = vgi ml 4 (fun v => vc xs zH_141 n true d 141 43 ml (.int v :: st) t Q) := by
  rw [vc_q (o := (1, 0, 4, 1, [])) (by decide +kernel)]; rfl
theorem h_141_41 (xs : Option (List Int32)) (n d : Nat) (ml st : List Value) (t : T) (Q : Option Value → T → Prop) : vc xs zH_141 (n + 1) true d 141 41 ml st t Q = twp xs d 141 41 ml st t Q := id rfl
theorem v_141_43 (xs : Option (List Int32)) (n : Nat) (b : Bool) (d : Nat) (ml : List Value) (t : T) (Q : Option Value → T → Prop) (st : List Value) : vc xs zH_141 (n + 1) b d 141 43 ml st t Q = vgi ml 2 (fun v => vc xs zH_141 n true d 141 44 ml (.int v :: st) t Q) := by
  rw [vc_q (o := (1, 0, 2, 0, [])) (by decide +kernel)]; rfl
theorem v_141_44 (xs : Option (List Int32)) (n : Nat) (b : Bool) (d : Nat) (ml : List Value) (t : T) (Q : Option Value → T → Prop) (u v : Int32) (r : List Value) : vc xs zH_141 (n + 1) b d 141 44 ml (.int v :: .int u :: r) t Q = (if u < v then vc xs zH_141 n true d 141 47 ml r t Q else vc xs zH_141 n true d 141 61 ml r t Q) := by
  rw [vc_q (o := (20, 0, 61, 3, [])) (by decide +kernel)]; rfl
theorem v_141_47 (xs : Option (List Int32)) (n : Nat) (b : Bool) (d : Nat) (ml : List Value) (t : T) (Q : Option Value → T → Prop) (st : List Value) : vc xs zH_141 (n + 1) b d 141 47 ml st t Q = vga ml 0 (fun v => vc xs zH_141 n true d 141 48 ml (.ref v :: st) t Q) := by
  rw [vc_q (o := (2, 0, 0, 0, [])) (by decide +kernel)]; rfl
theorem v_141_48 (xs : Option (List Int32)) (n : Nat) (b : Bool) (d : Nat) (ml : List Value) (t : T) (Q : Option Value → T → Prop) (st : List Value) : vc xs zH_141 (n + 1) b d 141 48 ml st t Q = vga ml 1 (fun v => vc xs zH_141 n true d 141 49 ml (.ref v :: st) t Q) := by
  rw [vc_q (o := (2, 0, 1, 0, [])) (by decide +kernel)]; rfl
theorem v_141_49 (xs : Option (List Int32)) (n : Nat) (b : Bool) (d : Nat) (ml : List Value) (t : T) (Q : Option Value → T → Prop) (st : List Value) : vc xs zH_141 (n + 1) b d 141 49 ml st t Q = vgi ml 3 (fun v => vc xs zH_141 n true d 141 50 ml (.int v :: st) t Q) := by
  rw [vc_q (o := (1, 0, 3, 0, [])) (by decide +kernel)]; rfl
theorem v_141_50 (xs : Option (List Int32)) (n : Nat) (b : Bool) (d : Nat) (ml : List Value) (t : T) (Q : Option Value → T → Prop) (st : List Value) : vc xs zH_141 (n + 1) b d 141 50 ml st t Q = vgi ml 4 (fun v => vc xs zH_141 n true d 141 52 ml (.int v :: st) t Q) := by
  rw [vc_q (o := (1, 0, 4, 1, [])) (by decide +kernel)]; rfl
theorem v_141_52 (xs : Option (List Int32)) (n : Nat) (b : Bool) (d : Nat) (ml : List Value) (t : T) (Q : Option Value → T → Prop) (st : List Value) : vc xs zH_141 (n + 1) b d 141 52 ml st t Q = (st.all zc1 = true ∧ vtk 4 st [] (fun as rest => rest.length ≤ 8 ∧ vrc as 9 (twc d 145 as t (fun r t' => vc xs zH_141 n true d 141 55 ml (r.toList ++ rest) t' Q)))) := by
  rw [vc_q (o := (36, 0, 145, 3, [(0, 9)])) (by decide +kernel)]; rfl
theorem v_141_55 (xs : Option (List Int32)) (n : Nat) (b : Bool) (d : Nat) (ml : List Value) (t : T) (Q : Option Value → T → Prop) (st : List Value) : vc xs zH_141 (n + 1) b d 141 55 ml st t Q = vgi ml 4 (fun v => vset ml 4 (.int (v + 1)) (fun l => vc xs zH_141 n true d 141 58 l st t Q)) := by
  rw [vc_q (o := (5, 1, 4, 0, [])) (by decide +kernel)]; rfl
theorem v_141_58 (xs : Option (List Int32)) (n : Nat) (b : Bool) (d : Nat) (ml : List Value) (t : T) (Q : Option Value → T → Prop) (st : List Value) : vc xs zH_141 (n + 1) b d 141 58 ml st t Q = vc xs zH_141 n true d 141 41 ml st t Q := by
  rw [vc_q (o := (22, 0, 41, 0, [])) (by decide +kernel)]; rfl
theorem v_141_61 (xs : Option (List Int32)) (n : Nat) (b : Bool) (d : Nat) (ml : List Value) (t : T) (Q : Option Value → T → Prop) (st : List Value) : vc xs zH_141 (n + 1) b d 141 61 ml st t Q = vgi ml 3 (fun v => vset ml 3 (.int (v + 1)) (fun l => vc xs zH_141 n true d 141 64 l st t Q)) := by
  rw [vc_q (o := (5, 1, 3, 0, [])) (by decide +kernel)]; rfl
theorem v_141_64 (xs : Option (List Int32)) (n : Nat) (b : Bool) (d : Nat) (ml : List Value) (t : T) (Q : Option Value → T → Prop) (st : List Value) : vc xs zH_141 (n + 1) b d 141 64 ml st t Q = vc xs zH_141 n true d 141 27 ml st t Q := by
  rw [vc_q (o := (22, 0, 27, 0, [])) (by decide +kernel)]; rfl
theorem v_141_67 (xs : Option (List Int32)) (n : Nat) (b : Bool) (d : Nat) (ml : List Value) (t : T) (Q : Option Value → T → Prop)  : vc xs zH_141 (n + 1) b d 141 67 ml [] t Q = Q none t := by
  rw [vc_q (o := (43, 0, 0, 0, [])) (by decide +kernel)]; rfl
