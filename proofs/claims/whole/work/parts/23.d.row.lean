def zH_77 : List Nat := [90]
theorem v_77_0 (xs : Option (List Int32)) (n : Nat) (b : Bool) (d : Nat) (ml : List Value) (t : T) (Q : Option Value → T → Prop) (st : List Value) : vc xs zH_77 (n + 1) b d 77 0 ml st t Q = vgi ml 1 (fun v => vc xs zH_77 n true d 77 1 ml (.int v :: st) t Q) := by
  rw [vc_q (o := (1, 0, 1, 0, [])) (by decide +kernel)]; rfl
theorem v_77_1 (xs : Option (List Int32)) (n : Nat) (b : Bool) (d : Nat) (ml : List Value) (t : T) (Q : Option Value → T → Prop) (st : List Value) : vc xs zH_77 (n + 1) b d 77 1 ml st t Q = (st.all zc1 = true ∧ vtk 1 st [] (fun as rest => rest.length ≤ 8 ∧ twc d 47 as t (fun r t' => vc xs zH_77 n true d 77 4 ml (r.toList ++ rest) t' Q))) := by
  rw [vc_q (o := (37, 0, 47, 1, [])) (by decide +kernel)]; rfl
theorem v_77_4 (xs : Option (List Int32)) (n : Nat) (b : Bool) (d : Nat) (ml : List Value) (t : T) (Q : Option Value → T → Prop) (u : Int32) (r : List Value) : vc xs zH_77 (n + 1) b d 77 4 ml (.int u :: r) t Q = (if u = 0 then vc xs zH_77 n true d 77 50 ml r t Q else vc xs zH_77 n true d 77 7 ml r t Q) := by
  rw [vc_q (o := (21, 0, 50, 0, [])) (by decide +kernel)]; rfl
theorem v_77_7 (xs : Option (List Int32)) (n : Nat) (b : Bool) (d : Nat) (ml : List Value) (t : T) (Q : Option Value → T → Prop) (st : List Value) : vc xs zH_77 (n + 1) b d 77 7 ml st t Q = vgi ml 2 (fun v => vc xs zH_77 n true d 77 8 ml (.int v :: st) t Q) := by
  rw [vc_q (o := (1, 0, 2, 0, [])) (by decide +kernel)]; rfl
theorem v_77_8 (xs : Option (List Int32)) (n : Nat) (b : Bool) (d : Nat) (ml : List Value) (t : T) (Q : Option Value → T → Prop) (st : List Value) : vc xs zH_77 (n + 1) b d 77 8 ml st t Q = (st.all zc1 = true ∧ vtk 1 st [] (fun as rest => rest.length ≤ 8 ∧ twc d 47 as t (fun r t' => vc xs zH_77 n true d 77 11 ml (r.toList ++ rest) t' Q))) := by
  rw [vc_q (o := (37, 0, 47, 1, [])) (by decide +kernel)]; rfl
theorem v_77_11 (xs : Option (List Int32)) (n : Nat) (b : Bool) (d : Nat) (ml : List Value) (t : T) (Q : Option Value → T → Prop) (u : Int32) (r : List Value) : vc xs zH_77 (n + 1) b d 77 11 ml (.int u :: r) t Q = (if u = 0 then vc xs zH_77 n true d 77 50 ml r t Q else vc xs zH_77 n true d 77 14 ml r t Q) := by
  rw [vc_q (o := (21, 0, 50, 0, [])) (by decide +kernel)]; rfl
theorem v_77_14 (xs : Option (List Int32)) (n : Nat) (b : Bool) (d : Nat) (ml : List Value) (t : T) (Q : Option Value → T → Prop) (st : List Value) : vc xs zH_77 (n + 1) b d 77 14 ml st t Q = vga ml 0 (fun v => vc xs zH_77 n true d 77 15 ml (.ref v :: st) t Q) := by
  rw [vc_q (o := (2, 0, 0, 0, [])) (by decide +kernel)]; rfl
theorem v_77_15 (xs : Option (List Int32)) (n : Nat) (b : Bool) (d : Nat) (ml : List Value) (t : T) (Q : Option Value → T → Prop) (st : List Value) : vc xs zH_77 (n + 1) b d 77 15 ml st t Q = vgi ml 1 (fun v => vc xs zH_77 n true d 77 16 ml (.int v :: st) t Q) := by
  rw [vc_q (o := (1, 0, 1, 0, [])) (by decide +kernel)]; rfl
theorem v_77_16 (xs : Option (List Int32)) (n : Nat) (b : Bool) (d : Nat) (ml : List Value) (t : T) (Q : Option Value → T → Prop) (st : List Value) : vc xs zH_77 (n + 1) b d 77 16 ml st t Q = vc xs zH_77 n true d 77 17 ml (.int 1 :: st) t Q := by
  rw [vc_q (o := (0, 1, 0, 0, [])) (by decide +kernel)]; rfl
theorem v_77_17 (xs : Option (List Int32)) (n : Nat) (b : Bool) (d : Nat) (ml : List Value) (t : T) (Q : Option Value → T → Prop) (st : List Value) : vc xs zH_77 (n + 1) b d 77 17 ml st t Q = (st.all zc1 = true ∧ vtk 3 st [] (fun as rest => rest.length ≤ 8 ∧ vrc as 12 (twc d 38 as t (fun r t' => vc xs zH_77 n true d 77 20 ml (r.toList ++ rest) t' Q)))) := by
  rw [vc_q (o := (36, 0, 38, 2, [(0, 12)])) (by decide +kernel)]; rfl
theorem v_77_20 (xs : Option (List Int32)) (n : Nat) (b : Bool) (d : Nat) (ml : List Value) (t : T) (Q : Option Value → T → Prop) (st : List Value) : vc xs zH_77 (n + 1) b d 77 20 ml st t Q = vga ml 0 (fun v => vc xs zH_77 n true d 77 21 ml (.ref v :: st) t Q) := by
  rw [vc_q (o := (2, 0, 0, 0, [])) (by decide +kernel)]; rfl
theorem v_77_21 (xs : Option (List Int32)) (n : Nat) (b : Bool) (d : Nat) (ml : List Value) (t : T) (Q : Option Value → T → Prop) (st : List Value) : vc xs zH_77 (n + 1) b d 77 21 ml st t Q = vgi ml 2 (fun v => vc xs zH_77 n true d 77 22 ml (.int v :: st) t Q) := by
  rw [vc_q (o := (1, 0, 2, 0, [])) (by decide +kernel)]; rfl
theorem v_77_22 (xs : Option (List Int32)) (n : Nat) (b : Bool) (d : Nat) (ml : List Value) (t : T) (Q : Option Value → T → Prop) (st : List Value) : vc xs zH_77 (n + 1) b d 77 22 ml st t Q = vc xs zH_77 n true d 77 23 ml (.int 1 :: st) t Q := by
  rw [vc_q (o := (0, 1, 0, 0, [])) (by decide +kernel)]; rfl
theorem v_77_23 (xs : Option (List Int32)) (n : Nat) (b : Bool) (d : Nat) (ml : List Value) (t : T) (Q : Option Value → T → Prop) (st : List Value) : vc xs zH_77 (n + 1) b d 77 23 ml st t Q = (st.all zc1 = true ∧ vtk 3 st [] (fun as rest => rest.length ≤ 8 ∧ vrc as 12 (twc d 38 as t (fun r t' => vc xs zH_77 n true d 77 26 ml (r.toList ++ rest) t' Q)))) := by
  rw [vc_q (o := (36, 0, 38, 2, [(0, 12)])) (by decide +kernel)]; rfl
theorem v_77_26 (xs : Option (List Int32)) (n : Nat) (b : Bool) (d : Nat) (ml : List Value) (t : T) (Q : Option Value → T → Prop) (st : List Value) : vc xs zH_77 (n + 1) b d 77 26 ml st t Q = (st.all zc1 = true ∧ vtk 2 st [] (fun as rest => rest.length ≤ 8 ∧ twc d 74 as t (fun r t' => vc xs zH_77 n true d 77 29 ml (r.toList ++ rest) t' Q))) := by
  rw [vc_q (o := (37, 0, 74, 2, [])) (by decide +kernel)]; rfl
theorem v_77_29 (xs : Option (List Int32)) (n : Nat) (b : Bool) (d : Nat) (ml : List Value) (t : T) (Q : Option Value → T → Prop) (u : Int32) (r : List Value) : vc xs zH_77 (n + 1) b d 77 29 ml (.int u :: r) t Q = (if u = 0 then vc xs zH_77 n true d 77 50 ml r t Q else vc xs zH_77 n true d 77 32 ml r t Q) := by
  rw [vc_q (o := (21, 0, 50, 0, [])) (by decide +kernel)]; rfl
theorem v_77_32 (xs : Option (List Int32)) (n : Nat) (b : Bool) (d : Nat) (ml : List Value) (t : T) (Q : Option Value → T → Prop) (st : List Value) : vc xs zH_77 (n + 1) b d 77 32 ml st t Q = vga ml 0 (fun v => vc xs zH_77 n true d 77 33 ml (.ref v :: st) t Q) := by
  rw [vc_q (o := (2, 0, 0, 0, [])) (by decide +kernel)]; rfl
theorem v_77_33 (xs : Option (List Int32)) (n : Nat) (b : Bool) (d : Nat) (ml : List Value) (t : T) (Q : Option Value → T → Prop) (st : List Value) : vc xs zH_77 (n + 1) b d 77 33 ml st t Q = vgi ml 1 (fun v => vc xs zH_77 n true d 77 34 ml (.int v :: st) t Q) := by
  rw [vc_q (o := (1, 0, 1, 0, [])) (by decide +kernel)]; rfl
theorem v_77_34 (xs : Option (List Int32)) (n : Nat) (b : Bool) (d : Nat) (ml : List Value) (t : T) (Q : Option Value → T → Prop) (st : List Value) : vc xs zH_77 (n + 1) b d 77 34 ml st t Q = vc xs zH_77 n true d 77 35 ml (.int 2 :: st) t Q := by
  rw [vc_q (o := (0, 2, 0, 0, [])) (by decide +kernel)]; rfl
theorem v_77_35 (xs : Option (List Int32)) (n : Nat) (b : Bool) (d : Nat) (ml : List Value) (t : T) (Q : Option Value → T → Prop) (st : List Value) : vc xs zH_77 (n + 1) b d 77 35 ml st t Q = (st.all zc1 = true ∧ vtk 3 st [] (fun as rest => rest.length ≤ 8 ∧ vrc as 12 (twc d 38 as t (fun r t' => vc xs zH_77 n true d 77 38 ml (r.toList ++ rest) t' Q)))) := by
  rw [vc_q (o := (36, 0, 38, 2, [(0, 12)])) (by decide +kernel)]; rfl
theorem v_77_38 (xs : Option (List Int32)) (n : Nat) (b : Bool) (d : Nat) (ml : List Value) (t : T) (Q : Option Value → T → Prop) (st : List Value) : vc xs zH_77 (n + 1) b d 77 38 ml st t Q = vga ml 0 (fun v => vc xs zH_77 n true d 77 39 ml (.ref v :: st) t Q) := by
  rw [vc_q (o := (2, 0, 0, 0, [])) (by decide +kernel)]; rfl
theorem v_77_39 (xs : Option (List Int32)) (n : Nat) (b : Bool) (d : Nat) (ml : List Value) (t : T) (Q : Option Value → T → Prop) (st : List Value) : vc xs zH_77 (n + 1) b d 77 39 ml st t Q = vgi ml 2 (fun v => vc xs zH_77 n true d 77 40 ml (.int v :: st) t Q) := by
  rw [vc_q (o := (1, 0, 2, 0, [])) (by decide +kernel)]; rfl
theorem v_77_40 (xs : Option (List Int32)) (n : Nat) (b : Bool) (d : Nat) (ml : List Value) (t : T) (Q : Option Value → T → Prop) (st : List Value) : vc xs zH_77 (n + 1) b d 77 40 ml st t Q = vc xs zH_77 n true d 77 41 ml (.int 2 :: st) t Q := by
  rw [vc_q (o := (0, 2, 0, 0, [])) (by decide +kernel)]; rfl
theorem v_77_41 (xs : Option (List Int32)) (n : Nat) (b : Bool) (d : Nat) (ml : List Value) (t : T) (Q : Option Value → T → Prop) (st : List Value) : vc xs zH_77 (n + 1) b d 77 41 ml st t Q = (st.all zc1 = true ∧ vtk 3 st [] (fun as rest => rest.length ≤ 8 ∧ vrc as 12 (twc d 38 as t (fun r t' => vc xs zH_77 n true d 77 44 ml (r.toList ++ rest) t' Q)))) := by
  rw [vc_q (o := (36, 0, 38, 2, [(0, 12)])) (by decide +kernel)]; rfl
theorem v_77_44 (xs : Option (List Int32)) (n : Nat) (b : Bool) (d : Nat) (ml : List Value) (t : T) (Q : Option Value → T → Prop) (st : List Value) : vc xs zH_77 (n + 1) b d 77 44 ml st t Q = (st.all zc1 = true ∧ vtk 2 st [] (fun as rest => rest.length ≤ 8 ∧ twc d 74 as t (fun r t' => vc xs zH_77 n true d 77 47 ml (r.toList ++ rest) t' Q))) := by
  rw [vc_q (o := (37, 0, 74, 2, [])) (by decide +kernel)]; rfl
theorem v_77_47 (xs : Option (List Int32)) (n : Nat) (b : Bool) (d : Nat) (ml : List Value) (t : T) (Q : Option Value → T → Prop) (u : Int32) (r : List Value) : vc xs zH_77 (n + 1) b d 77 47 ml (.int u :: r) t Q = (if u = 0 then vc xs zH_77 n true d 77 50 ml r t Q else vc xs zH_77 n true d 77 52 ml r t Q) := by
  rw [vc_q (o := (21, 0, 52, 1, [])) (by decide +kernel)]; rfl
theorem v_77_50 (xs : Option (List Int32)) (n : Nat) (b : Bool) (d : Nat) (ml : List Value) (t : T) (Q : Option Value → T → Prop) (st : List Value) : vc xs zH_77 (n + 1) b d 77 50 ml st t Q = vc xs zH_77 n true d 77 51 ml (.int 0 :: st) t Q := by
  rw [vc_q (o := (0, 0, 0, 0, [])) (by decide +kernel)]; rfl
theorem v_77_51 (xs : Option (List Int32)) (n : Nat) (b : Bool) (d : Nat) (ml : List Value) (t : T) (Q : Option Value → T → Prop) (v : Int32) : vc xs zH_77 (n + 1) b d 77 51 ml [.int v] t Q = ((v = 0 ∨ v = 1) ∧ Q (some (.int v)) t) := by
  rw [vc_q (o := (41, 0, 0, 0, [])) (by decide +kernel)]; rfl
theorem v_77_52 (xs : Option (List Int32)) (n : Nat) (b : Bool) (d : Nat) (ml : List Value) (t : T) (Q : Option Value → T → Prop) (st : List Value) : vc xs zH_77 (n + 1) b d 77 52 ml st t Q = vga ml 0 (fun v => vc xs zH_77 n true d 77 53 ml (.ref v :: st) t Q) := by
  rw [vc_q (o := (2, 0, 0, 0, [])) (by decide +kernel)]; rfl
theorem v_77_53 (xs : Option (List Int32)) (n : Nat) (b : Bool) (d : Nat) (ml : List Value) (t : T) (Q : Option Value → T → Prop) (st : List Value) : vc xs zH_77 (n + 1) b d 77 53 ml st t Q = vgi ml 1 (fun v => vc xs zH_77 n true d 77 54 ml (.int v :: st) t Q) := by
  rw [vc_q (o := (1, 0, 1, 0, [])) (by decide +kernel)]; rfl
theorem v_77_54 (xs : Option (List Int32)) (n : Nat) (b : Bool) (d : Nat) (ml : List Value) (t : T) (Q : Option Value → T → Prop) (st : List Value) : vc xs zH_77 (n + 1) b d 77 54 ml st t Q = (st.all zc1 = true ∧ vtk 2 st [] (fun as rest => rest.length ≤ 8 ∧ vrc as 12 (twc d 40 as t (fun r t' => vc xs zH_77 n true d 77 57 ml (r.toList ++ rest) t' Q)))) := by
  rw [vc_q (o := (36, 0, 40, 1, [(0, 12)])) (by decide +kernel)]; rfl
theorem v_77_57 (xs : Option (List Int32)) (n : Nat) (b : Bool) (d : Nat) (ml : List Value) (t : T) (Q : Option Value → T → Prop) (v : Int32) (r : List Value) : vc xs zH_77 (n + 1) b d 77 57 ml (.int v :: r) t Q = vset ml 3 (.int v) (fun l => vc xs zH_77 n true d 77 58 l r t Q) := by
  rw [vc_q (o := (3, 0, 3, 0, [])) (by decide +kernel)]; rfl
theorem v_77_58 (xs : Option (List Int32)) (n : Nat) (b : Bool) (d : Nat) (ml : List Value) (t : T) (Q : Option Value → T → Prop) (st : List Value) : vc xs zH_77 (n + 1) b d 77 58 ml st t Q = vga ml 0 (fun v => vc xs zH_77 n true d 77 59 ml (.ref v :: st) t Q) := by
  rw [vc_q (o := (2, 0, 0, 0, [])) (by decide +kernel)]; rfl
theorem v_77_59 (xs : Option (List Int32)) (n : Nat) (b : Bool) (d : Nat) (ml : List Value) (t : T) (Q : Option Value → T → Prop) (st : List Value) : vc xs zH_77 (n + 1) b d 77 59 ml st t Q = vgi ml 2 (fun v => vc xs zH_77 n true d 77 60 ml (.int v :: st) t Q) := by
  rw [vc_q (o := (1, 0, 2, 0, [])) (by decide +kernel)]; rfl
theorem v_77_60 (xs : Option (List Int32)) (n : Nat) (b : Bool) (d : Nat) (ml : List Value) (t : T) (Q : Option Value → T → Prop) (st : List Value) : vc xs zH_77 (n + 1) b d 77 60 ml st t Q = (st.all zc1 = true ∧ vtk 2 st [] (fun as rest => rest.length ≤ 8 ∧ vrc as 12 (twc d 40 as t (fun r t' => vc xs zH_77 n true d 77 63 ml (r.toList ++ rest) t' Q)))) := by
  rw [vc_q (o := (36, 0, 40, 1, [(0, 12)])) (by decide +kernel)]; rfl
theorem v_77_63 (xs : Option (List Int32)) (n : Nat) (b : Bool) (d : Nat) (ml : List Value) (t : T) (Q : Option Value → T → Prop) (v : Int32) (r : List Value) : vc xs zH_77 (n + 1) b d 77 63 ml (.int v :: r) t Q = vset ml 4 (.int v) (fun l => vc xs zH_77 n true d 77 65 l r t Q) := by
  rw [vc_q (o := (3, 0, 4, 1, [])) (by decide +kernel)]; rfl
theorem v_77_65 (xs : Option (List Int32)) (n : Nat) (b : Bool) (d : Nat) (ml : List Value) (t : T) (Q : Option Value → T → Prop) (st : List Value) : vc xs zH_77 (n + 1) b d 77 65 ml st t Q = vgi ml 3 (fun v => vc xs zH_77 n true d 77 66 ml (.int v :: st) t Q) := by
  rw [vc_q (o := (1, 0, 3, 0, [])) (by decide +kernel)]; rfl
theorem v_77_66 (xs : Option (List Int32)) (n : Nat) (b : Bool) (d : Nat) (ml : List Value) (t : T) (Q : Option Value → T → Prop) (u : Int32) (r : List Value) : vc xs zH_77 (n + 1) b d 77 66 ml (.int u :: r) t Q = (if u = 0 then vc xs zH_77 n true d 77 69 ml r t Q else vc xs zH_77 n true d 77 80 ml r t Q) := by
  rw [vc_q (o := (21, 0, 80, 1, [])) (by decide +kernel)]; rfl
theorem v_77_69 (xs : Option (List Int32)) (n : Nat) (b : Bool) (d : Nat) (ml : List Value) (t : T) (Q : Option Value → T → Prop) (st : List Value) : vc xs zH_77 (n + 1) b d 77 69 ml st t Q = vgi ml 4 (fun v => vc xs zH_77 n true d 77 71 ml (.int v :: st) t Q) := by
  rw [vc_q (o := (1, 0, 4, 1, [])) (by decide +kernel)]; rfl
theorem v_77_71 (xs : Option (List Int32)) (n : Nat) (b : Bool) (d : Nat) (ml : List Value) (t : T) (Q : Option Value → T → Prop) (u : Int32) (r : List Value) : vc xs zH_77 (n + 1) b d 77 71 ml (.int u :: r) t Q = (if u = 0 then vc xs zH_77 n true d 77 74 ml r t Q else vc xs zH_77 n true d 77 78 ml r t Q) := by
  rw [vc_q (o := (21, 0, 78, 1, [])) (by decide +kernel)]; rfl
theorem v_77_74 (xs : Option (List Int32)) (n : Nat) (b : Bool) (d : Nat) (ml : List Value) (t : T) (Q : Option Value → T → Prop) (st : List Value) : vc xs zH_77 (n + 1) b d 77 74 ml st t Q = vc xs zH_77 n true d 77 75 ml (.int 1 :: st) t Q := by
  rw [vc_q (o := (0, 1, 0, 0, [])) (by decide +kernel)]; rfl
theorem v_77_75 (xs : Option (List Int32)) (n : Nat) (b : Bool) (d : Nat) (ml : List Value) (t : T) (Q : Option Value → T → Prop) (st : List Value) : vc xs zH_77 (n + 1) b d 77 75 ml st t Q = vc xs zH_77 n true d 77 79 ml st t Q := by
  rw [vc_q (o := (22, 0, 79, 0, [])) (by decide +kernel)]; rfl
theorem v_77_78 (xs : Option (List Int32)) (n : Nat) (b : Bool) (d : Nat) (ml : List Value) (t : T) (Q : Option Value → T → Prop) (st : List Value) : vc xs zH_77 (n + 1) b d 77 78 ml st t Q = vc xs zH_77 n true d 77 79 ml (.int 0 :: st) t Q := by
  rw [vc_q (o := (0, 0, 0, 0, [])) (by decide +kernel)]; rfl
theorem v_77_79 (xs : Option (List Int32)) (n : Nat) (b : Bool) (d : Nat) (ml : List Value) (t : T) (Q : Option Value → T → Prop) (v : Int32) : vc xs zH_77 (n + 1) b d 77 79 ml [.int v] t Q = ((v = 0 ∨ v = 1) ∧ Q (some (.int v)) t) := by
  rw [vc_q (o := (41, 0, 0, 0, [])) (by decide +kernel)]; rfl
theorem v_77_80 (xs : Option (List Int32)) (n : Nat) (b : Bool) (d : Nat) (ml : List Value) (t : T) (Q : Option Value → T → Prop) (st : List Value) : vc xs zH_77 (n + 1) b d 77 80 ml st t Q = vc xs zH_77 n true d 77 81 ml (.int 0 :: st) t Q := by
  rw [vc_q (o := (0, 0, 0, 0, [])) (by decide +kernel)]; rfl
theorem v_77_81 (xs : Option (List Int32)) (n : Nat) (b : Bool) (d : Nat) (ml : List Value) (t : T) (Q : Option Value → T → Prop) (v : Int32) (r : List Value) : vc xs zH_77 (n + 1) b d 77 81 ml (.int v :: r) t Q = vset ml 5 (.int v) (fun l => vc xs zH_77 n true d 77 83 l r t Q) := by
  rw [vc_q (o := (3, 0, 5, 1, [])) (by decide +kernel)]; rfl
theorem v_77_83 (xs : Option (List Int32)) (n : Nat) (b : Bool) (d : Nat) (ml : List Value) (t : T) (Q : Option Value → T → Prop) (st : List Value) : vc xs zH_77 (n + 1) b d 77 83 ml st t Q = vga ml 0 (fun v => vc xs zH_77 n true d 77 84 ml (.ref v :: st) t Q) := by
  rw [vc_q (o := (2, 0, 0, 0, [])) (by decide +kernel)]; rfl
theorem v_77_84 (xs : Option (List Int32)) (n : Nat) (b : Bool) (d : Nat) (ml : List Value) (t : T) (Q : Option Value → T → Prop) (u : Nat) (r : List Value) : vc xs zH_77 (n + 1) b d 77 84 ml (.ref u :: r) t Q = (vtag u = 12 ∧ vc xs zH_77 n true d 77 87 ml (.ref (tref t u 37) :: r) t Q) := by
  rw [vc_q (o := (25, 0, 12, 37, [])) (by decide +kernel)]; rfl
theorem v_77_87 (xs : Option (List Int32)) (n : Nat) (b : Bool) (d : Nat) (ml : List Value) (t : T) (Q : Option Value → T → Prop) (st : List Value) : vc xs zH_77 (n + 1) b d 77 87 ml st t Q = vc xs zH_77 n true d 77 88 ml (.int 0 :: st) t Q := by
  rw [vc_q (o := (0, 0, 0, 0, [])) (by decide +kernel)]; rfl
theorem v_77_88 (xs : Option (List Int32)) (n : Nat) (b : Bool) (d : Nat) (ml : List Value) (t : T) (Q : Option Value → T → Prop) (st : List Value) : vc xs zH_77 (n + 1) b d 77 88 ml st t Q = vc xs zH_77 n true d 77 89 ml (.int (-1) :: st) t Q := by
  rw [vc_q (o := (0, (-1), 0, 0, [])) (by decide +kernel)]; rfl
theorem v_77_89 (xs : Option (List Int32)) (n : Nat) (b : Bool) (d : Nat) (ml : List Value) (t : T) (Q : Option Value → T → Prop) (w v : Int32) (u : Nat) (r : List Value) : vc xs zH_77 (n + 1) b d 77 89 ml (.int w :: .int v :: .ref u :: r) t Q = (vtag u = 100 ∧ vinb v (vlen u) ∧ vc xs zH_77 n true d 77 90 ml r (tsi t u v.toNatClampNeg w) Q) := by
  rw [vc_q (o := (32, 0, 0, 0, [])) (by decide +kernel)]; rfl
theorem v_77_90 (xs : Option (List Int32)) (n : Nat) (d : Nat) (ml : List Value) (t : T) (Q : Option Value → T → Prop) (st : List Value) : vc xs zH_77 (n + 1) false d 77 90 ml st t Q = vgi ml 5 (fun v => vc xs zH_77 n true d 77 92 ml (.int v :: st) t Q) := by
  rw [vc_q (o := (1, 0, 5, 1, [])) (by decide +kernel)]; rfl
theorem h_77_90 (xs : Option (List Int32)) (n d : Nat) (ml st : List Value) (t : T) (Q : Option Value → T → Prop) : vc xs zH_77 (n + 1) true d 77 90 ml st t Q = twp xs d 77 90 ml st t Q := id rfl
theorem v_77_92 (xs : Option (List Int32)) (n : Nat) (b : Bool) (d : Nat) (ml : List Value) (t : T) (Q : Option Value → T → Prop) (u : Int32) (r : List Value) : vc xs zH_77 (n + 1) b d 77 92 ml (.int u :: r) t Q = (if u < 0 then vc xs zH_77 n true d 77 169 ml r t Q else vc xs zH_77 n true d 77 95 ml r t Q) := by
  rw [vc_q (o := (21, 0, 169, 2, [])) (by decide +kernel)]; rfl
theorem v_77_95 (xs : Option (List Int32)) (n : Nat) (b : Bool) (d : Nat) (ml : List Value) (t : T) (Q : Option Value → T → Prop) (st : List Value) : vc xs zH_77 (n + 1) b d 77 95 ml st t Q = vga ml 0 (fun v => vc xs zH_77 n true d 77 96 ml (.ref v :: st) t Q) := by
  rw [vc_q (o := (2, 0, 0, 0, [])) (by decide +kernel)]; rfl
theorem v_77_96 (xs : Option (List Int32)) (n : Nat) (b : Bool) (d : Nat) (ml : List Value) (t : T) (Q : Option Value → T → Prop) (u : Nat) (r : List Value) : vc xs zH_77 (n + 1) b d 77 96 ml (.ref u :: r) t Q = (vtag u = 12 ∧ vc xs zH_77 n true d 77 99 ml (.ref (tref t u 37) :: r) t Q) := by
  rw [vc_q (o := (25, 0, 12, 37, [])) (by decide +kernel)]; rfl
theorem v_77_99 (xs : Option (List Int32)) (n : Nat) (b : Bool) (d : Nat) (ml : List Value) (t : T) (Q : Option Value → T → Prop) (st : List Value) : vc xs zH_77 (n + 1) b d 77 99 ml st t Q = vgi ml 5 (fun v => vc xs zH_77 n true d 77 101 ml (.int v :: st) t Q) := by
  rw [vc_q (o := (1, 0, 5, 1, [])) (by decide +kernel)]; rfl
theorem v_77_101 (xs : Option (List Int32)) (n : Nat) (b : Bool) (d : Nat) (ml : List Value) (t : T) (Q : Option Value → T → Prop) (v : Int32) (u : Nat) (r : List Value) : vc xs zH_77 (n + 1) b d 77 101 ml (.int v :: .ref u :: r) t Q = vc xs zH_77 n true d 77 102 ml (.int v :: .ref u :: .int v :: .ref u :: r) t Q := by
  rw [vc_q (o := (18, 0, 0, 0, [])) (by decide +kernel)]; rfl
theorem v_77_102 (xs : Option (List Int32)) (n : Nat) (b : Bool) (d : Nat) (ml : List Value) (t : T) (Q : Option Value → T → Prop) (v : Int32) (u : Nat) (r : List Value) : vc xs zH_77 (n + 1) b d 77 102 ml (.int v :: .ref u :: r) t Q = (vtag u = 100 ∧ vinb v (vlen u) ∧ vc xs zH_77 n true d 77 103 ml (.int (t.1 u v.toNatClampNeg) :: r) t Q) := by
  rw [vc_q (o := (29, 0, 0, 0, [])) (by decide +kernel)]; rfl
theorem v_77_103 (xs : Option (List Int32)) (n : Nat) (b : Bool) (d : Nat) (ml : List Value) (t : T) (Q : Option Value → T → Prop) (st : List Value) : vc xs zH_77 (n + 1) b d 77 103 ml st t Q = vc xs zH_77 n true d 77 104 ml (.int 1 :: st) t Q := by
  rw [vc_q (o := (0, 1, 0, 0, [])) (by decide +kernel)]; rfl
theorem v_77_104 (xs : Option (List Int32)) (n : Nat) (b : Bool) (d : Nat) (ml : List Value) (t : T) (Q : Option Value → T → Prop) (u v : Int32) (r : List Value) : vc xs zH_77 (n + 1) b d 77 104 ml (.int v :: .int u :: r) t Q = vc xs zH_77 n true d 77 105 ml (.int (u + v) :: r) t Q := by
  rw [vc_q (o := (6, 0, 0, 0, [])) (by decide +kernel)]; rfl
theorem v_77_105 (xs : Option (List Int32)) (n : Nat) (b : Bool) (d : Nat) (ml : List Value) (t : T) (Q : Option Value → T → Prop) (w v : Int32) (u : Nat) (r : List Value) : vc xs zH_77 (n + 1) b d 77 105 ml (.int w :: .int v :: .ref u :: r) t Q = (vtag u = 100 ∧ vinb v (vlen u) ∧ vc xs zH_77 n true d 77 106 ml r (tsi t u v.toNatClampNeg w) Q) := by
  rw [vc_q (o := (32, 0, 0, 0, [])) (by decide +kernel)]; rfl
theorem v_77_106 (xs : Option (List Int32)) (n : Nat) (b : Bool) (d : Nat) (ml : List Value) (t : T) (Q : Option Value → T → Prop) (st : List Value) : vc xs zH_77 (n + 1) b d 77 106 ml st t Q = vga ml 0 (fun v => vc xs zH_77 n true d 77 107 ml (.ref v :: st) t Q) := by
  rw [vc_q (o := (2, 0, 0, 0, [])) (by decide +kernel)]; rfl
theorem v_77_107 (xs : Option (List Int32)) (n : Nat) (b : Bool) (d : Nat) (ml : List Value) (t : T) (Q : Option Value → T → Prop) (u : Nat) (r : List Value) : vc xs zH_77 (n + 1) b d 77 107 ml (.ref u :: r) t Q = (vtag u = 12 ∧ vc xs zH_77 n true d 77 110 ml (.ref (tref t u 37) :: r) t Q) := by
  rw [vc_q (o := (25, 0, 12, 37, [])) (by decide +kernel)]; rfl
theorem v_77_110 (xs : Option (List Int32)) (n : Nat) (b : Bool) (d : Nat) (ml : List Value) (t : T) (Q : Option Value → T → Prop) (st : List Value) : vc xs zH_77 (n + 1) b d 77 110 ml st t Q = vgi ml 5 (fun v => vc xs zH_77 n true d 77 112 ml (.int v :: st) t Q) := by
  rw [vc_q (o := (1, 0, 5, 1, [])) (by decide +kernel)]; rfl
theorem v_77_112 (xs : Option (List Int32)) (n : Nat) (b : Bool) (d : Nat) (ml : List Value) (t : T) (Q : Option Value → T → Prop) (v : Int32) (u : Nat) (r : List Value) : vc xs zH_77 (n + 1) b d 77 112 ml (.int v :: .ref u :: r) t Q = (vtag u = 100 ∧ vinb v (vlen u) ∧ vc xs zH_77 n true d 77 113 ml (.int (t.1 u v.toNatClampNeg) :: r) t Q) := by
  rw [vc_q (o := (29, 0, 0, 0, [])) (by decide +kernel)]; rfl
theorem v_77_113 (xs : Option (List Int32)) (n : Nat) (b : Bool) (d : Nat) (ml : List Value) (t : T) (Q : Option Value → T → Prop) (st : List Value) : vc xs zH_77 (n + 1) b d 77 113 ml st t Q = vgi ml 4 (fun v => vc xs zH_77 n true d 77 115 ml (.int v :: st) t Q) := by
  rw [vc_q (o := (1, 0, 4, 1, [])) (by decide +kernel)]; rfl
theorem v_77_115 (xs : Option (List Int32)) (n : Nat) (b : Bool) (d : Nat) (ml : List Value) (t : T) (Q : Option Value → T → Prop) (u v : Int32) (r : List Value) : vc xs zH_77 (n + 1) b d 77 115 ml (.int v :: .int u :: r) t Q = (if u < v then vc xs zH_77 n true d 77 124 ml r t Q else vc xs zH_77 n true d 77 118 ml r t Q) := by
  rw [vc_q (o := (20, 0, 124, 2, [])) (by decide +kernel)]; rfl
theorem v_77_118 (xs : Option (List Int32)) (n : Nat) (b : Bool) (d : Nat) (ml : List Value) (t : T) (Q : Option Value → T → Prop) (st : List Value) : vc xs zH_77 (n + 1) b d 77 118 ml st t Q = vgi ml 5 (fun v => vset ml 5 (.int (v + (-1))) (fun l => vc xs zH_77 n true d 77 121 l st t Q)) := by
  rw [vc_q (o := (5, (-1), 5, 0, [])) (by decide +kernel)]; rfl
theorem v_77_121 (xs : Option (List Int32)) (n : Nat) (b : Bool) (d : Nat) (ml : List Value) (t : T) (Q : Option Value → T → Prop) (st : List Value) : vc xs zH_77 (n + 1) b d 77 121 ml st t Q = vc xs zH_77 n true d 77 90 ml st t Q := by
  rw [vc_q (o := (22, 0, 90, 0, [])) (by decide +kernel)]; rfl
theorem v_77_124 (xs : Option (List Int32)) (n : Nat) (b : Bool) (d : Nat) (ml : List Value) (t : T) (Q : Option Value → T → Prop) (st : List Value) : vc xs zH_77 (n + 1) b d 77 124 ml st t Q = vga ml 0 (fun v => vc xs zH_77 n true d 77 125 ml (.ref v :: st) t Q) := by
  rw [vc_q (o := (2, 0, 0, 0, [])) (by decide +kernel)]; rfl
theorem v_77_125 (xs : Option (List Int32)) (n : Nat) (b : Bool) (d : Nat) (ml : List Value) (t : T) (Q : Option Value → T → Prop) (st : List Value) : vc xs zH_77 (n + 1) b d 77 125 ml st t Q = vgi ml 1 (fun v => vc xs zH_77 n true d 77 126 ml (.int v :: st) t Q) := by
  rw [vc_q (o := (1, 0, 1, 0, [])) (by decide +kernel)]; rfl
theorem v_77_126 (xs : Option (List Int32)) (n : Nat) (b : Bool) (d : Nat) (ml : List Value) (t : T) (Q : Option Value → T → Prop) (st : List Value) : vc xs zH_77 (n + 1) b d 77 126 ml st t Q = vgi ml 2 (fun v => vc xs zH_77 n true d 77 127 ml (.int v :: st) t Q) := by
  rw [vc_q (o := (1, 0, 2, 0, [])) (by decide +kernel)]; rfl
theorem v_77_127 (xs : Option (List Int32)) (n : Nat) (b : Bool) (d : Nat) (ml : List Value) (t : T) (Q : Option Value → T → Prop) (st : List Value) : vc xs zH_77 (n + 1) b d 77 127 ml st t Q = vgi ml 5 (fun v => vc xs zH_77 n true d 77 129 ml (.int v :: st) t Q) := by
  rw [vc_q (o := (1, 0, 5, 1, [])) (by decide +kernel)]; rfl
theorem v_77_129 (xs : Option (List Int32)) (n : Nat) (b : Bool) (d : Nat) (ml : List Value) (t : T) (Q : Option Value → T → Prop) (st : List Value) : vc xs zH_77 (n + 1) b d 77 129 ml st t Q = (st.all zc1 = true ∧ vtk 4 st [] (fun as rest => rest.length ≤ 8 ∧ vrc as 12 (twc d 75 as t (fun r t' => vc xs zH_77 n true d 77 132 ml (r.toList ++ rest) t' Q)))) := by
  rw [vc_q (o := (36, 0, 75, 3, [(0, 12)])) (by decide +kernel)]; rfl
theorem v_77_132 (xs : Option (List Int32)) (n : Nat) (b : Bool) (d : Nat) (ml : List Value) (t : T) (Q : Option Value → T → Prop) (u : Int32) (r : List Value) : vc xs zH_77 (n + 1) b d 77 132 ml (.int u :: r) t Q = (if u = 0 then vc xs zH_77 n true d 77 90 ml r t Q else vc xs zH_77 n true d 77 135 ml r t Q) := by
  rw [vc_q (o := (21, 0, 90, 0, [])) (by decide +kernel)]; rfl
theorem v_77_135 (xs : Option (List Int32)) (n : Nat) (b : Bool) (d : Nat) (ml : List Value) (t : T) (Q : Option Value → T → Prop) (st : List Value) : vc xs zH_77 (n + 1) b d 77 135 ml st t Q = vgi ml 5 (fun v => vc xs zH_77 n true d 77 137 ml (.int v :: st) t Q) := by
  rw [vc_q (o := (1, 0, 5, 1, [])) (by decide +kernel)]; rfl
theorem v_77_137 (xs : Option (List Int32)) (n : Nat) (b : Bool) (d : Nat) (ml : List Value) (t : T) (Q : Option Value → T → Prop) (st : List Value) : vc xs zH_77 (n + 1) b d 77 137 ml st t Q = vgi ml 3 (fun v => vc xs zH_77 n true d 77 138 ml (.int v :: st) t Q) := by
  rw [vc_q (o := (1, 0, 3, 0, [])) (by decide +kernel)]; rfl
theorem v_77_138 (xs : Option (List Int32)) (n : Nat) (b : Bool) (d : Nat) (ml : List Value) (t : T) (Q : Option Value → T → Prop) (st : List Value) : vc xs zH_77 (n + 1) b d 77 138 ml st t Q = vc xs zH_77 n true d 77 139 ml (.int 1 :: st) t Q := by
  rw [vc_q (o := (0, 1, 0, 0, [])) (by decide +kernel)]; rfl
theorem v_77_139 (xs : Option (List Int32)) (n : Nat) (b : Bool) (d : Nat) (ml : List Value) (t : T) (Q : Option Value → T → Prop) (u v : Int32) (r : List Value) : vc xs zH_77 (n + 1) b d 77 139 ml (.int v :: .int u :: r) t Q = vc xs zH_77 n true d 77 140 ml (.int (u - v) :: r) t Q := by
  rw [vc_q (o := (7, 0, 0, 0, [])) (by decide +kernel)]; rfl
theorem v_77_140 (xs : Option (List Int32)) (n : Nat) (b : Bool) (d : Nat) (ml : List Value) (t : T) (Q : Option Value → T → Prop) (u v : Int32) (r : List Value) : vc xs zH_77 (n + 1) b d 77 140 ml (.int v :: .int u :: r) t Q = (if u < v then vc xs zH_77 n true d 77 143 ml r t Q else vc xs zH_77 n true d 77 157 ml r t Q) := by
  rw [vc_q (o := (20, 0, 157, 3, [])) (by decide +kernel)]; rfl
theorem v_77_143 (xs : Option (List Int32)) (n : Nat) (b : Bool) (d : Nat) (ml : List Value) (t : T) (Q : Option Value → T → Prop) (st : List Value) : vc xs zH_77 (n + 1) b d 77 143 ml st t Q = vgi ml 5 (fun v => vset ml 5 (.int (v + 1)) (fun l => vc xs zH_77 n true d 77 146 l st t Q)) := by
  rw [vc_q (o := (5, 1, 5, 0, [])) (by decide +kernel)]; rfl
theorem v_77_146 (xs : Option (List Int32)) (n : Nat) (b : Bool) (d : Nat) (ml : List Value) (t : T) (Q : Option Value → T → Prop) (st : List Value) : vc xs zH_77 (n + 1) b d 77 146 ml st t Q = vga ml 0 (fun v => vc xs zH_77 n true d 77 147 ml (.ref v :: st) t Q) := by
  rw [vc_q (o := (2, 0, 0, 0, [])) (by decide +kernel)]; rfl
theorem v_77_147 (xs : Option (List Int32)) (n : Nat) (b : Bool) (d : Nat) (ml : List Value) (t : T) (Q : Option Value → T → Prop) (u : Nat) (r : List Value) : vc xs zH_77 (n + 1) b d 77 147 ml (.ref u :: r) t Q = (vtag u = 12 ∧ vc xs zH_77 n true d 77 150 ml (.ref (tref t u 37) :: r) t Q) := by
  rw [vc_q (o := (25, 0, 12, 37, [])) (by decide +kernel)]; rfl
theorem v_77_150 (xs : Option (List Int32)) (n : Nat) (b : Bool) (d : Nat) (ml : List Value) (t : T) (Q : Option Value → T → Prop) (st : List Value) : vc xs zH_77 (n + 1) b d 77 150 ml st t Q = vgi ml 5 (fun v => vc xs zH_77 n true d 77 152 ml (.int v :: st) t Q) := by
  rw [vc_q (o := (1, 0, 5, 1, [])) (by decide +kernel)]; rfl
theorem v_77_152 (xs : Option (List Int32)) (n : Nat) (b : Bool) (d : Nat) (ml : List Value) (t : T) (Q : Option Value → T → Prop) (st : List Value) : vc xs zH_77 (n + 1) b d 77 152 ml st t Q = vc xs zH_77 n true d 77 153 ml (.int (-1) :: st) t Q := by
  rw [vc_q (o := (0, (-1), 0, 0, [])) (by decide +kernel)]; rfl
theorem v_77_153 (xs : Option (List Int32)) (n : Nat) (b : Bool) (d : Nat) (ml : List Value) (t : T) (Q : Option Value → T → Prop) (w v : Int32) (u : Nat) (r : List Value) : vc xs zH_77 (n + 1) b d 77 153 ml (.int w :: .int v :: .ref u :: r) t Q = (vtag u = 100 ∧ vinb v (vlen u) ∧ vc xs zH_77 n true d 77 154 ml r (tsi t u v.toNatClampNeg w) Q) := by
  rw [vc_q (o := (32, 0, 0, 0, [])) (by decide +kernel)]; rfl
theorem v_77_154 (xs : Option (List Int32)) (n : Nat) (b : Bool) (d : Nat) (ml : List Value) (t : T) (Q : Option Value → T → Prop) (st : List Value) : vc xs zH_77 (n + 1) b d 77 154 ml st t Q = vc xs zH_77 n true d 77 90 ml st t Q := by
  rw [vc_q (o := (22, 0, 90, 0, [])) (by decide +kernel)]; rfl
theorem v_77_157 (xs : Option (List Int32)) (n : Nat) (b : Bool) (d : Nat) (ml : List Value) (t : T) (Q : Option Value → T → Prop) (st : List Value) : vc xs zH_77 (n + 1) b d 77 157 ml st t Q = vga ml 0 (fun v => vc xs zH_77 n true d 77 158 ml (.ref v :: st) t Q) := by
  rw [vc_q (o := (2, 0, 0, 0, [])) (by decide +kernel)]; rfl
theorem v_77_158 (xs : Option (List Int32)) (n : Nat) (b : Bool) (d : Nat) (ml : List Value) (t : T) (Q : Option Value → T → Prop) (st : List Value) : vc xs zH_77 (n + 1) b d 77 158 ml st t Q = vgi ml 3 (fun v => vc xs zH_77 n true d 77 159 ml (.int v :: st) t Q) := by
  rw [vc_q (o := (1, 0, 3, 0, [])) (by decide +kernel)]; rfl
theorem v_77_159 (xs : Option (List Int32)) (n : Nat) (b : Bool) (d : Nat) (ml : List Value) (t : T) (Q : Option Value → T → Prop) (st : List Value) : vc xs zH_77 (n + 1) b d 77 159 ml st t Q = vgi ml 4 (fun v => vc xs zH_77 n true d 77 161 ml (.int v :: st) t Q) := by
  rw [vc_q (o := (1, 0, 4, 1, [])) (by decide +kernel)]; rfl
theorem v_77_161 (xs : Option (List Int32)) (n : Nat) (b : Bool) (d : Nat) (ml : List Value) (t : T) (Q : Option Value → T → Prop) (st : List Value) : vc xs zH_77 (n + 1) b d 77 161 ml st t Q = (st.all zc1 = true ∧ vtk 3 st [] (fun as rest => rest.length ≤ 8 ∧ vrc as 12 (twc d 76 as t (fun r t' => vc xs zH_77 n true d 77 164 ml (r.toList ++ rest) t' Q)))) := by
  rw [vc_q (o := (36, 0, 76, 2, [(0, 12)])) (by decide +kernel)]; rfl
theorem v_77_164 (xs : Option (List Int32)) (n : Nat) (b : Bool) (d : Nat) (ml : List Value) (t : T) (Q : Option Value → T → Prop) (u : Int32) (r : List Value) : vc xs zH_77 (n + 1) b d 77 164 ml (.int u :: r) t Q = (if u = 0 then vc xs zH_77 n true d 77 90 ml r t Q else vc xs zH_77 n true d 77 167 ml r t Q) := by
  rw [vc_q (o := (21, 0, 90, 0, [])) (by decide +kernel)]; rfl
theorem v_77_167 (xs : Option (List Int32)) (n : Nat) (b : Bool) (d : Nat) (ml : List Value) (t : T) (Q : Option Value → T → Prop) (st : List Value) : vc xs zH_77 (n + 1) b d 77 167 ml st t Q = vc xs zH_77 n true d 77 168 ml (.int 1 :: st) t Q := by
  rw [vc_q (o := (0, 1, 0, 0, [])) (by decide +kernel)]; rfl
theorem v_77_168 (xs : Option (List Int32)) (n : Nat) (b : Bool) (d : Nat) (ml : List Value) (t : T) (Q : Option Value → T → Prop) (v : Int32) : vc xs zH_77 (n + 1) b d 77 168 ml [.int v] t Q = ((v = 0 ∨ v = 1) ∧ Q (some (.int v)) t) := by
  rw [vc_q (o := (41, 0, 0, 0, [])) (by decide +kernel)]; rfl
theorem v_77_169 (xs : Option (List Int32)) (n : Nat) (b : Bool) (d : Nat) (ml : List Value) (t : T) (Q : Option Value → T → Prop) (st : List Value) : vc xs zH_77 (n + 1) b d 77 169 ml st t Q = vc xs zH_77 n true d 77 170 ml (.int 0 :: st) t Q := by
  rw [vc_q (o := (0, 0, 0, 0, [])) (by decide +kernel)]; rfl
theorem v_77_170 (xs : Option (List Int32)) (n : Nat) (b : Bool) (d : Nat) (ml : List Value) (t : T) (Q : Option Value → T → Prop) (v : Int32) : vc xs zH_77 (n + 1) b d 77 170 ml [.int v] t Q = ((v = 0 ∨ v = 1) ∧ Q (some (.int v)) t) := by
  rw [vc_q (o := (41, 0, 0, 0, [])) (by decide +kernel)]; rfl
def zH_78 : List Nat := [35, 78, 88]
theorem v_78_0 (xs : Option (List Int32)) (n : Nat) (b : Bool) (d : Nat) (ml : List Value) (t : T) (Q : Option Value → T → Prop) (st : List Value) : vc xs zH_78 (n + 1) b d 78 0 ml st t Q = vga ml 0 (fun v => vc xs zH_78 n true d 78 1 ml (.ref v :: st) t Q) := by
  rw [vc_q (o := (2, 0, 0, 0, [])) (by decide +kernel)]; rfl
theorem v_78_1 (xs : Option (List Int32)) (n : Nat) (b : Bool) (d : Nat) (ml : List Value) (t : T) (Q : Option Value → T → Prop) (st : List Value) : vc xs zH_78 (n + 1) b d 78 1 ml st t Q = vgi ml 1 (fun v => vc xs zH_78 n true d 78 2 ml (.int v :: st) t Q) := by
  rw [vc_q (o := (1, 0, 1, 0, [])) (by decide +kernel)]; rfl
theorem v_78_2 (xs : Option (List Int32)) (n : Nat) (b : Bool) (d : Nat) (ml : List Value) (t : T) (Q : Option Value → T → Prop) (st : List Value) : vc xs zH_78 (n + 1) b d 78 2 ml st t Q = (st.all zc1 = true ∧ vtk 2 st [] (fun as rest => rest.length ≤ 8 ∧ vrc as 12 (twc d 40 as t (fun r t' => vc xs zH_78 n true d 78 5 ml (r.toList ++ rest) t' Q)))) := by
  rw [vc_q (o := (36, 0, 40, 1, [(0, 12)])) (by decide +kernel)]; rfl
theorem v_78_5 (xs : Option (List Int32)) (n : Nat) (b : Bool) (d : Nat) (ml : List Value) (t : T) (Q : Option Value → T → Prop) (v : Int32) (r : List Value) : vc xs zH_78 (n + 1) b d 78 5 ml (.int v :: r) t Q = vset ml 4 (.int v) (fun l => vc xs zH_78 n true d 78 7 l r t Q) := by
  rw [vc_q (o := (3, 0, 4, 1, [])) (by decide +kernel)]; rfl
theorem v_78_7 (xs : Option (List Int32)) (n : Nat) (b : Bool) (d : Nat) (ml : List Value) (t : T) (Q : Option Value → T → Prop) (st : List Value) : vc xs zH_78 (n + 1) b d 78 7 ml st t Q = vgi ml 4 (fun v => vc xs zH_78 n true d 78 9 ml (.int v :: st) t Q) := by
  rw [vc_q (o := (1, 0, 4, 1, [])) (by decide +kernel)]; rfl
theorem v_78_9 (xs : Option (List Int32)) (n : Nat) (b : Bool) (d : Nat) (ml : List Value) (t : T) (Q : Option Value → T → Prop) (st : List Value) : vc xs zH_78 (n + 1) b d 78 9 ml st t Q = vc xs zH_78 n true d 78 11 ml (.int 6 :: st) t Q := by
  rw [vc_q (o := (0, 6, 1, 0, [])) (by decide +kernel)]; rfl
theorem v_78_11 (xs : Option (List Int32)) (n : Nat) (b : Bool) (d : Nat) (ml : List Value) (t : T) (Q : Option Value → T → Prop) (u v : Int32) (r : List Value) : vc xs zH_78 (n + 1) b d 78 11 ml (.int v :: .int u :: r) t Q = (if u = v then vc xs zH_78 n true d 78 14 ml r t Q else vc xs zH_78 n true d 78 16 ml r t Q) := by
  rw [vc_q (o := (20, 0, 16, 1, [])) (by decide +kernel)]; rfl
theorem v_78_14 (xs : Option (List Int32)) (n : Nat) (b : Bool) (d : Nat) (ml : List Value) (t : T) (Q : Option Value → T → Prop) (st : List Value) : vc xs zH_78 (n + 1) b d 78 14 ml st t Q = vc xs zH_78 n true d 78 15 ml (.int 0 :: st) t Q := by
  rw [vc_q (o := (0, 0, 0, 0, [])) (by decide +kernel)]; rfl
theorem v_78_15 (xs : Option (List Int32)) (n : Nat) (b : Bool) (d : Nat) (ml : List Value) (t : T) (Q : Option Value → T → Prop) (v : Int32) : vc xs zH_78 (n + 1) b d 78 15 ml [.int v] t Q = ((v = 0 ∨ v = 1) ∧ Q (some (.int v)) t) := by
  rw [vc_q (o := (41, 0, 0, 0, [])) (by decide +kernel)]; rfl
theorem v_78_16 (xs : Option (List Int32)) (n : Nat) (b : Bool) (d : Nat) (ml : List Value) (t : T) (Q : Option Value → T → Prop) (st : List Value) : vc xs zH_78 (n + 1) b d 78 16 ml st t Q = vga ml 0 (fun v => vc xs zH_78 n true d 78 17 ml (.ref v :: st) t Q) := by
  rw [vc_q (o := (2, 0, 0, 0, [])) (by decide +kernel)]; rfl
theorem v_78_17 (xs : Option (List Int32)) (n : Nat) (b : Bool) (d : Nat) (ml : List Value) (t : T) (Q : Option Value → T → Prop) (st : List Value) : vc xs zH_78 (n + 1) b d 78 17 ml st t Q = vgi ml 1 (fun v => vc xs zH_78 n true d 78 18 ml (.int v :: st) t Q) := by
  rw [vc_q (o := (1, 0, 1, 0, [])) (by decide +kernel)]; rfl
theorem v_78_18 (xs : Option (List Int32)) (n : Nat) (b : Bool) (d : Nat) (ml : List Value) (t : T) (Q : Option Value → T → Prop) (st : List Value) : vc xs zH_78 (n + 1) b d 78 18 ml st t Q = vgi ml 2 (fun v => vc xs zH_78 n true d 78 19 ml (.int v :: st) t Q) := by
  rw [vc_q (o := (1, 0, 2, 0, [])) (by decide +kernel)]; rfl
theorem v_78_19 (xs : Option (List Int32)) (n : Nat) (b : Bool) (d : Nat) (ml : List Value) (t : T) (Q : Option Value → T → Prop) (st : List Value) : vc xs zH_78 (n + 1) b d 78 19 ml st t Q = (st.all zc1 = true ∧ vtk 3 st [] (fun as rest => rest.length ≤ 8 ∧ vrc as 12 (twc d 44 as t (fun r t' => vc xs zH_78 n true d 78 22 ml (r.toList ++ rest) t' Q)))) := by
  rw [vc_q (o := (36, 0, 44, 2, [(0, 12)])) (by decide +kernel)]; rfl
theorem v_78_22 (xs : Option (List Int32)) (n : Nat) (b : Bool) (d : Nat) (ml : List Value) (t : T) (Q : Option Value → T → Prop) (st : List Value) : vc xs zH_78 (n + 1) b d 78 22 ml st t Q = vga ml 0 (fun v => vc xs zH_78 n true d 78 23 ml (.ref v :: st) t Q) := by
  rw [vc_q (o := (2, 0, 0, 0, [])) (by decide +kernel)]; rfl
theorem v_78_23 (xs : Option (List Int32)) (n : Nat) (b : Bool) (d : Nat) (ml : List Value) (t : T) (Q : Option Value → T → Prop) (st : List Value) : vc xs zH_78 (n + 1) b d 78 23 ml st t Q = vgi ml 2 (fun v => vc xs zH_78 n true d 78 24 ml (.int v :: st) t Q) := by
  rw [vc_q (o := (1, 0, 2, 0, [])) (by decide +kernel)]; rfl
theorem v_78_24 (xs : Option (List Int32)) (n : Nat) (b : Bool) (d : Nat) (ml : List Value) (t : T) (Q : Option Value → T → Prop) (st : List Value) : vc xs zH_78 (n + 1) b d 78 24 ml st t Q = vc xs zH_78 n true d 78 25 ml (.int 0 :: st) t Q := by
  rw [vc_q (o := (0, 0, 0, 0, [])) (by decide +kernel)]; rfl
theorem v_78_25 (xs : Option (List Int32)) (n : Nat) (b : Bool) (d : Nat) (ml : List Value) (t : T) (Q : Option Value → T → Prop) (st : List Value) : vc xs zH_78 (n + 1) b d 78 25 ml st t Q = vgi ml 4 (fun v => vc xs zH_78 n true d 78 27 ml (.int v :: st) t Q) := by
  rw [vc_q (o := (1, 0, 4, 1, [])) (by decide +kernel)]; rfl
theorem v_78_27 (xs : Option (List Int32)) (n : Nat) (b : Bool) (d : Nat) (ml : List Value) (t : T) (Q : Option Value → T → Prop) (st : List Value) : vc xs zH_78 (n + 1) b d 78 27 ml st t Q = vc xs zH_78 n true d 78 28 ml (.int 1 :: st) t Q := by
  rw [vc_q (o := (0, 1, 0, 0, [])) (by decide +kernel)]; rfl
theorem v_78_28 (xs : Option (List Int32)) (n : Nat) (b : Bool) (d : Nat) (ml : List Value) (t : T) (Q : Option Value → T → Prop) (u v : Int32) (r : List Value) : vc xs zH_78 (n + 1) b d 78 28 ml (.int v :: .int u :: r) t Q = vc xs zH_78 n true d 78 29 ml (.int (u + v) :: r) t Q := by
  rw [vc_q (o := (6, 0, 0, 0, [])) (by decide +kernel)]; rfl
theorem v_78_29 (xs : Option (List Int32)) (n : Nat) (b : Bool) (d : Nat) (ml : List Value) (t : T) (Q : Option Value → T → Prop) (st : List Value) : vc xs zH_78 (n + 1) b d 78 29 ml st t Q = (st.all zc1 = true ∧ vtk 4 st [] (fun as rest => rest.length ≤ 8 ∧ vrc as 12 (twc d 39 as t (fun r t' => vc xs zH_78 n true d 78 32 ml (r.toList ++ rest) t' Q)))) := by
  rw [vc_q (o := (36, 0, 39, 3, [(0, 12)])) (by decide +kernel)]; rfl
theorem v_78_32 (xs : Option (List Int32)) (n : Nat) (b : Bool) (d : Nat) (ml : List Value) (t : T) (Q : Option Value → T → Prop) (st : List Value) : vc xs zH_78 (n + 1) b d 78 32 ml st t Q = vc xs zH_78 n true d 78 33 ml (.int 0 :: st) t Q := by
  rw [vc_q (o := (0, 0, 0, 0, [])) (by decide +kernel)]; rfl
theorem v_78_33 (xs : Option (List Int32)) (n : Nat) (b : Bool) (d : Nat) (ml : List Value) (t : T) (Q : Option Value → T → Prop) (v : Int32) (r : List Value) : vc xs zH_78 (n + 1) b d 78 33 ml (.int v :: r) t Q = vset ml 5 (.int v) (fun l => vc xs zH_78 n true d 78 35 l r t Q) := by
  rw [vc_q (o := (3, 0, 5, 1, [])) (by decide +kernel)]; rfl
theorem v_78_35 (xs : Option (List Int32)) (n : Nat) (d : Nat) (ml : List Value) (t : T) (Q : Option Value → T → Prop) (st : List Value) : vc xs zH_78 (n + 1) false d 78 35 ml st t Q = vgi ml 5 (fun v => vc xs zH_78 n true d 78 37 ml (.int v :: st) t Q) := by
  rw [vc_q (o := (1, 0, 5, 1, [])) (by decide +kernel)]; rfl
theorem h_78_35 (xs : Option (List Int32)) (n d : Nat) (ml st : List Value) (t : T) (Q : Option Value → T → Prop) : vc xs zH_78 (n + 1) true d 78 35 ml st t Q = twp xs d 78 35 ml st t Q := id rfl
theorem v_78_37 (xs : Option (List Int32)) (n : Nat) (b : Bool) (d : Nat) (ml : List Value) (t : T) (Q : Option Value → T → Prop) (st : List Value) : vc xs zH_78 (n + 1) b d 78 37 ml st t Q = vc xs zH_78 n true d 78 38 ml (.int 5 :: st) t Q := by
  rw [vc_q (o := (0, 5, 0, 0, [])) (by decide +kernel)]; rfl
theorem v_78_38 (xs : Option (List Int32)) (n : Nat) (b : Bool) (d : Nat) (ml : List Value) (t : T) (Q : Option Value → T → Prop) (u v : Int32) (r : List Value) : vc xs zH_78 (n + 1) b d 78 38 ml (.int v :: .int u :: r) t Q = (if u < v then vc xs zH_78 n true d 78 41 ml r t Q else vc xs zH_78 n true d 78 74 ml r t Q) := by
  rw [vc_q (o := (20, 0, 74, 3, [])) (by decide +kernel)]; rfl
theorem v_78_41 (xs : Option (List Int32)) (n : Nat) (b : Bool) (d : Nat) (ml : List Value) (t : T) (Q : Option Value → T → Prop) (st : List Value) : vc xs zH_78 (n + 1) b d 78 41 ml st t Q = vga ml 0 (fun v => vc xs zH_78 n true d 78 42 ml (.ref v :: st) t Q) := by
  rw [vc_q (o := (2, 0, 0, 0, [])) (by decide +kernel)]; rfl
theorem v_78_42 (xs : Option (List Int32)) (n : Nat) (b : Bool) (d : Nat) (ml : List Value) (t : T) (Q : Option Value → T → Prop) (st : List Value) : vc xs zH_78 (n + 1) b d 78 42 ml st t Q = vgi ml 2 (fun v => vc xs zH_78 n true d 78 43 ml (.int v :: st) t Q) := by
  rw [vc_q (o := (1, 0, 2, 0, [])) (by decide +kernel)]; rfl
theorem v_78_43 (xs : Option (List Int32)) (n : Nat) (b : Bool) (d : Nat) (ml : List Value) (t : T) (Q : Option Value → T → Prop) (st : List Value) : vc xs zH_78 (n + 1) b d 78 43 ml st t Q = vc xs zH_78 n true d 78 44 ml (.int 3 :: st) t Q := by
  rw [vc_q (o := (0, 3, 0, 0, [])) (by decide +kernel)]; rfl
theorem v_78_44 (xs : Option (List Int32)) (n : Nat) (b : Bool) (d : Nat) (ml : List Value) (t : T) (Q : Option Value → T → Prop) (st : List Value) : vc xs zH_78 (n + 1) b d 78 44 ml st t Q = vc xs zH_78 n true d 78 45 ml (.int 5 :: st) t Q := by
  rw [vc_q (o := (0, 5, 0, 0, [])) (by decide +kernel)]; rfl
theorem v_78_45 (xs : Option (List Int32)) (n : Nat) (b : Bool) (d : Nat) (ml : List Value) (t : T) (Q : Option Value → T → Prop) (st : List Value) : vc xs zH_78 (n + 1) b d 78 45 ml st t Q = vgi ml 4 (fun v => vc xs zH_78 n true d 78 47 ml (.int v :: st) t Q) := by
  rw [vc_q (o := (1, 0, 4, 1, [])) (by decide +kernel)]; rfl
theorem v_78_47 (xs : Option (List Int32)) (n : Nat) (b : Bool) (d : Nat) (ml : List Value) (t : T) (Q : Option Value → T → Prop) (u v : Int32) (r : List Value) : vc xs zH_78 (n + 1) b d 78 47 ml (.int v :: .int u :: r) t Q = vc xs zH_78 n true d 78 48 ml (.int (u * v) :: r) t Q := by
  rw [vc_q (o := (8, 0, 0, 0, [])) (by decide +kernel)]; rfl
theorem v_78_48 (xs : Option (List Int32)) (n : Nat) (b : Bool) (d : Nat) (ml : List Value) (t : T) (Q : Option Value → T → Prop) (u v : Int32) (r : List Value) : vc xs zH_78 (n + 1) b d 78 48 ml (.int v :: .int u :: r) t Q = vc xs zH_78 n true d 78 49 ml (.int (u + v) :: r) t Q := by
  rw [vc_q (o := (6, 0, 0, 0, [])) (by decide +kernel)]; rfl
theorem v_78_49 (xs : Option (List Int32)) (n : Nat) (b : Bool) (d : Nat) (ml : List Value) (t : T) (Q : Option Value → T → Prop) (st : List Value) : vc xs zH_78 (n + 1) b d 78 49 ml st t Q = vgi ml 5 (fun v => vc xs zH_78 n true d 78 51 ml (.int v :: st) t Q) := by
  rw [vc_q (o := (1, 0, 5, 1, [])) (by decide +kernel)]; rfl
theorem v_78_51 (xs : Option (List Int32)) (n : Nat) (b : Bool) (d : Nat) (ml : List Value) (t : T) (Q : Option Value → T → Prop) (u v : Int32) (r : List Value) : vc xs zH_78 (n + 1) b d 78 51 ml (.int v :: .int u :: r) t Q = vc xs zH_78 n true d 78 52 ml (.int (u + v) :: r) t Q := by
  rw [vc_q (o := (6, 0, 0, 0, [])) (by decide +kernel)]; rfl
theorem v_78_52 (xs : Option (List Int32)) (n : Nat) (b : Bool) (d : Nat) (ml : List Value) (t : T) (Q : Option Value → T → Prop) (st : List Value) : vc xs zH_78 (n + 1) b d 78 52 ml st t Q = vga ml 0 (fun v => vc xs zH_78 n true d 78 53 ml (.ref v :: st) t Q) := by
  rw [vc_q (o := (2, 0, 0, 0, [])) (by decide +kernel)]; rfl
theorem v_78_53 (xs : Option (List Int32)) (n : Nat) (b : Bool) (d : Nat) (ml : List Value) (t : T) (Q : Option Value → T → Prop) (st : List Value) : vc xs zH_78 (n + 1) b d 78 53 ml st t Q = vgi ml 1 (fun v => vc xs zH_78 n true d 78 54 ml (.int v :: st) t Q) := by
  rw [vc_q (o := (1, 0, 1, 0, [])) (by decide +kernel)]; rfl
theorem v_78_54 (xs : Option (List Int32)) (n : Nat) (b : Bool) (d : Nat) (ml : List Value) (t : T) (Q : Option Value → T → Prop) (st : List Value) : vc xs zH_78 (n + 1) b d 78 54 ml st t Q = vc xs zH_78 n true d 78 55 ml (.int 3 :: st) t Q := by
  rw [vc_q (o := (0, 3, 0, 0, [])) (by decide +kernel)]; rfl
theorem v_78_55 (xs : Option (List Int32)) (n : Nat) (b : Bool) (d : Nat) (ml : List Value) (t : T) (Q : Option Value → T → Prop) (st : List Value) : vc xs zH_78 (n + 1) b d 78 55 ml st t Q = vc xs zH_78 n true d 78 56 ml (.int 5 :: st) t Q := by
  rw [vc_q (o := (0, 5, 0, 0, [])) (by decide +kernel)]; rfl
theorem v_78_56 (xs : Option (List Int32)) (n : Nat) (b : Bool) (d : Nat) (ml : List Value) (t : T) (Q : Option Value → T → Prop) (st : List Value) : vc xs zH_78 (n + 1) b d 78 56 ml st t Q = vgi ml 3 (fun v => vc xs zH_78 n true d 78 57 ml (.int v :: st) t Q) := by
  rw [vc_q (o := (1, 0, 3, 0, [])) (by decide +kernel)]; rfl
theorem v_78_57 (xs : Option (List Int32)) (n : Nat) (b : Bool) (d : Nat) (ml : List Value) (t : T) (Q : Option Value → T → Prop) (u v : Int32) (r : List Value) : vc xs zH_78 (n + 1) b d 78 57 ml (.int v :: .int u :: r) t Q = vc xs zH_78 n true d 78 58 ml (.int (u * v) :: r) t Q := by
  rw [vc_q (o := (8, 0, 0, 0, [])) (by decide +kernel)]; rfl
theorem v_78_58 (xs : Option (List Int32)) (n : Nat) (b : Bool) (d : Nat) (ml : List Value) (t : T) (Q : Option Value → T → Prop) (u v : Int32) (r : List Value) : vc xs zH_78 (n + 1) b d 78 58 ml (.int v :: .int u :: r) t Q = vc xs zH_78 n true d 78 59 ml (.int (u + v) :: r) t Q := by
  rw [vc_q (o := (6, 0, 0, 0, [])) (by decide +kernel)]; rfl
theorem v_78_59 (xs : Option (List Int32)) (n : Nat) (b : Bool) (d : Nat) (ml : List Value) (t : T) (Q : Option Value → T → Prop) (st : List Value) : vc xs zH_78 (n + 1) b d 78 59 ml st t Q = vgi ml 5 (fun v => vc xs zH_78 n true d 78 61 ml (.int v :: st) t Q) := by
  rw [vc_q (o := (1, 0, 5, 1, [])) (by decide +kernel)]; rfl
theorem v_78_61 (xs : Option (List Int32)) (n : Nat) (b : Bool) (d : Nat) (ml : List Value) (t : T) (Q : Option Value → T → Prop) (u v : Int32) (r : List Value) : vc xs zH_78 (n + 1) b d 78 61 ml (.int v :: .int u :: r) t Q = vc xs zH_78 n true d 78 62 ml (.int (u + v) :: r) t Q := by
  rw [vc_q (o := (6, 0, 0, 0, [])) (by decide +kernel)]; rfl
theorem v_78_62 (xs : Option (List Int32)) (n : Nat) (b : Bool) (d : Nat) (ml : List Value) (t : T) (Q : Option Value → T → Prop) (st : List Value) : vc xs zH_78 (n + 1) b d 78 62 ml st t Q = (st.all zc1 = true ∧ vtk 3 st [] (fun as rest => rest.length ≤ 8 ∧ vrc as 12 (twc d 38 as t (fun r t' => vc xs zH_78 n true d 78 65 ml (r.toList ++ rest) t' Q)))) := by
  rw [vc_q (o := (36, 0, 38, 2, [(0, 12)])) (by decide +kernel)]; rfl
theorem v_78_65 (xs : Option (List Int32)) (n : Nat) (b : Bool) (d : Nat) (ml : List Value) (t : T) (Q : Option Value → T → Prop) (st : List Value) : vc xs zH_78 (n + 1) b d 78 65 ml st t Q = (st.all zc1 = true ∧ vtk 4 st [] (fun as rest => rest.length ≤ 8 ∧ vrc as 12 (twc d 39 as t (fun r t' => vc xs zH_78 n true d 78 68 ml (r.toList ++ rest) t' Q)))) := by
  rw [vc_q (o := (36, 0, 39, 3, [(0, 12)])) (by decide +kernel)]; rfl
theorem v_78_68 (xs : Option (List Int32)) (n : Nat) (b : Bool) (d : Nat) (ml : List Value) (t : T) (Q : Option Value → T → Prop) (st : List Value) : vc xs zH_78 (n + 1) b d 78 68 ml st t Q = vgi ml 5 (fun v => vset ml 5 (.int (v + 1)) (fun l => vc xs zH_78 n true d 78 71 l st t Q)) := by
  rw [vc_q (o := (5, 1, 5, 0, [])) (by decide +kernel)]; rfl
theorem v_78_71 (xs : Option (List Int32)) (n : Nat) (b : Bool) (d : Nat) (ml : List Value) (t : T) (Q : Option Value → T → Prop) (st : List Value) : vc xs zH_78 (n + 1) b d 78 71 ml st t Q = vc xs zH_78 n true d 78 35 ml st t Q := by
  rw [vc_q (o := (22, 0, 35, 0, [])) (by decide +kernel)]; rfl
theorem v_78_74 (xs : Option (List Int32)) (n : Nat) (b : Bool) (d : Nat) (ml : List Value) (t : T) (Q : Option Value → T → Prop) (st : List Value) : vc xs zH_78 (n + 1) b d 78 74 ml st t Q = vc xs zH_78 n true d 78 76 ml (.int 6 :: st) t Q := by
  rw [vc_q (o := (0, 6, 1, 0, [])) (by decide +kernel)]; rfl
theorem v_78_76 (xs : Option (List Int32)) (n : Nat) (b : Bool) (d : Nat) (ml : List Value) (t : T) (Q : Option Value → T → Prop) (v : Int32) (r : List Value) : vc xs zH_78 (n + 1) b d 78 76 ml (.int v :: r) t Q = vset ml 5 (.int v) (fun l => vc xs zH_78 n true d 78 78 l r t Q) := by
  rw [vc_q (o := (3, 0, 5, 1, [])) (by decide +kernel)]; rfl
theorem v_78_78 (xs : Option (List Int32)) (n : Nat) (d : Nat) (ml : List Value) (t : T) (Q : Option Value → T → Prop) (st : List Value) : vc xs zH_78 (n + 1) false d 78 78 ml st t Q = vgi ml 5 (fun v => vc xs zH_78 n true d 78 80 ml (.int v :: st) t Q) := by
  rw [vc_q (o := (1, 0, 5, 1, [])) (by decide +kernel)]; rfl
theorem h_78_78 (xs : Option (List Int32)) (n d : Nat) (ml st : List Value) (t : T) (Q : Option Value → T → Prop) : vc xs zH_78 (n + 1) true d 78 78 ml st t Q = twp xs d 78 78 ml st t Q := id rfl
theorem v_78_80 (xs : Option (List Int32)) (n : Nat) (b : Bool) (d : Nat) (ml : List Value) (t : T) (Q : Option Value → T → Prop) (st : List Value) : vc xs zH_78 (n + 1) b d 78 80 ml st t Q = vc xs zH_78 n true d 78 82 ml (.int 8 :: st) t Q := by
  rw [vc_q (o := (0, 8, 1, 0, [])) (by decide +kernel)]; rfl
theorem v_78_82 (xs : Option (List Int32)) (n : Nat) (b : Bool) (d : Nat) (ml : List Value) (t : T) (Q : Option Value → T → Prop) (u v : Int32) (r : List Value) : vc xs zH_78 (n + 1) b d 78 82 ml (.int v :: .int u :: r) t Q = (if u < v then vc xs zH_78 n true d 78 85 ml r t Q else vc xs zH_78 n true d 78 178 ml r t Q) := by
  rw [vc_q (o := (20, 0, 178, 3, [])) (by decide +kernel)]; rfl
theorem v_78_85 (xs : Option (List Int32)) (n : Nat) (b : Bool) (d : Nat) (ml : List Value) (t : T) (Q : Option Value → T → Prop) (st : List Value) : vc xs zH_78 (n + 1) b d 78 85 ml st t Q = vc xs zH_78 n true d 78 86 ml (.int 0 :: st) t Q := by
  rw [vc_q (o := (0, 0, 0, 0, [])) (by decide +kernel)]; rfl
theorem v_78_86 (xs : Option (List Int32)) (n : Nat) (b : Bool) (d : Nat) (ml : List Value) (t : T) (Q : Option Value → T → Prop) (v : Int32) (r : List Value) : vc xs zH_78 (n + 1) b d 78 86 ml (.int v :: r) t Q = vset ml 6 (.int v) (fun l => vc xs zH_78 n true d 78 88 l r t Q) := by
  rw [vc_q (o := (3, 0, 6, 1, [])) (by decide +kernel)]; rfl
theorem v_78_88 (xs : Option (List Int32)) (n : Nat) (d : Nat) (ml : List Value) (t : T) (Q : Option Value → T → Prop) (st : List Value) : vc xs zH_78 (n + 1) false d 78 88 ml st t Q = vgi ml 6 (fun v => vc xs zH_78 n true d 78 90 ml (.int v :: st) t Q) := by
  rw [vc_q (o := (1, 0, 6, 1, [])) (by decide +kernel)]; rfl
theorem h_78_88 (xs : Option (List Int32)) (n d : Nat) (ml st : List Value) (t : T) (Q : Option Value → T → Prop) : vc xs zH_78 (n + 1) true d 78 88 ml st t Q = twp xs d 78 88 ml st t Q := id rfl
theorem v_78_90 (xs : Option (List Int32)) (n : Nat) (b : Bool) (d : Nat) (ml : List Value) (t : T) (Q : Option Value → T → Prop) (st : List Value) : vc xs zH_78 (n + 1) b d 78 90 ml st t Q = vgi ml 4 (fun v => vc xs zH_78 n true d 78 92 ml (.int v :: st) t Q) := by
  rw [vc_q (o := (1, 0, 4, 1, [])) (by decide +kernel)]; rfl
theorem v_78_92 (xs : Option (List Int32)) (n : Nat) (b : Bool) (d : Nat) (ml : List Value) (t : T) (Q : Option Value → T → Prop) (u v : Int32) (r : List Value) : vc xs zH_78 (n + 1) b d 78 92 ml (.int v :: .int u :: r) t Q = (if u < v then vc xs zH_78 n true d 78 95 ml r t Q else vc xs zH_78 n true d 78 149 ml r t Q) := by
  rw [vc_q (o := (20, 0, 149, 3, [])) (by decide +kernel)]; rfl
theorem v_78_95 (xs : Option (List Int32)) (n : Nat) (b : Bool) (d : Nat) (ml : List Value) (t : T) (Q : Option Value → T → Prop) (st : List Value) : vc xs zH_78 (n + 1) b d 78 95 ml st t Q = vga ml 0 (fun v => vc xs zH_78 n true d 78 96 ml (.ref v :: st) t Q) := by
  rw [vc_q (o := (2, 0, 0, 0, [])) (by decide +kernel)]; rfl
theorem v_78_96 (xs : Option (List Int32)) (n : Nat) (b : Bool) (d : Nat) (ml : List Value) (t : T) (Q : Option Value → T → Prop) (st : List Value) : vc xs zH_78 (n + 1) b d 78 96 ml st t Q = vgi ml 2 (fun v => vc xs zH_78 n true d 78 97 ml (.int v :: st) t Q) := by
  rw [vc_q (o := (1, 0, 2, 0, [])) (by decide +kernel)]; rfl
theorem v_78_97 (xs : Option (List Int32)) (n : Nat) (b : Bool) (d : Nat) (ml : List Value) (t : T) (Q : Option Value → T → Prop) (st : List Value) : vc xs zH_78 (n + 1) b d 78 97 ml st t Q = vgi ml 5 (fun v => vc xs zH_78 n true d 78 99 ml (.int v :: st) t Q) := by
  rw [vc_q (o := (1, 0, 5, 1, [])) (by decide +kernel)]; rfl
theorem v_78_99 (xs : Option (List Int32)) (n : Nat) (b : Bool) (d : Nat) (ml : List Value) (t : T) (Q : Option Value → T → Prop) (st : List Value) : vc xs zH_78 (n + 1) b d 78 99 ml st t Q = vgi ml 4 (fun v => vc xs zH_78 n true d 78 101 ml (.int v :: st) t Q) := by
  rw [vc_q (o := (1, 0, 4, 1, [])) (by decide +kernel)]; rfl
theorem v_78_101 (xs : Option (List Int32)) (n : Nat) (b : Bool) (d : Nat) (ml : List Value) (t : T) (Q : Option Value → T → Prop) (st : List Value) : vc xs zH_78 (n + 1) b d 78 101 ml st t Q = vgi ml 6 (fun v => vc xs zH_78 n true d 78 103 ml (.int v :: st) t Q) := by
  rw [vc_q (o := (1, 0, 6, 1, [])) (by decide +kernel)]; rfl
theorem v_78_103 (xs : Option (List Int32)) (n : Nat) (b : Bool) (d : Nat) (ml : List Value) (t : T) (Q : Option Value → T → Prop) (st : List Value) : vc xs zH_78 (n + 1) b d 78 103 ml st t Q = (st.all zc1 = true ∧ vtk 3 st [] (fun as rest => rest.length ≤ 8 ∧ twc d 41 as t (fun r t' => vc xs zH_78 n true d 78 106 ml (r.toList ++ rest) t' Q))) := by
  rw [vc_q (o := (37, 0, 41, 3, [])) (by decide +kernel)]; rfl
theorem v_78_106 (xs : Option (List Int32)) (n : Nat) (b : Bool) (d : Nat) (ml : List Value) (t : T) (Q : Option Value → T → Prop) (st : List Value) : vc xs zH_78 (n + 1) b d 78 106 ml st t Q = vga ml 0 (fun v => vc xs zH_78 n true d 78 107 ml (.ref v :: st) t Q) := by
  rw [vc_q (o := (2, 0, 0, 0, [])) (by decide +kernel)]; rfl
theorem v_78_107 (xs : Option (List Int32)) (n : Nat) (b : Bool) (d : Nat) (ml : List Value) (t : T) (Q : Option Value → T → Prop) (st : List Value) : vc xs zH_78 (n + 1) b d 78 107 ml st t Q = vgi ml 1 (fun v => vc xs zH_78 n true d 78 108 ml (.int v :: st) t Q) := by
  rw [vc_q (o := (1, 0, 1, 0, [])) (by decide +kernel)]; rfl
theorem v_78_108 (xs : Option (List Int32)) (n : Nat) (b : Bool) (d : Nat) (ml : List Value) (t : T) (Q : Option Value → T → Prop) (st : List Value) : vc xs zH_78 (n + 1) b d 78 108 ml st t Q = vgi ml 5 (fun v => vc xs zH_78 n true d 78 110 ml (.int v :: st) t Q) := by
  rw [vc_q (o := (1, 0, 5, 1, [])) (by decide +kernel)]; rfl
theorem v_78_110 (xs : Option (List Int32)) (n : Nat) (b : Bool) (d : Nat) (ml : List Value) (t : T) (Q : Option Value → T → Prop) (st : List Value) : vc xs zH_78 (n + 1) b d 78 110 ml st t Q = vgi ml 3 (fun v => vc xs zH_78 n true d 78 111 ml (.int v :: st) t Q) := by
  rw [vc_q (o := (1, 0, 3, 0, [])) (by decide +kernel)]; rfl
theorem v_78_111 (xs : Option (List Int32)) (n : Nat) (b : Bool) (d : Nat) (ml : List Value) (t : T) (Q : Option Value → T → Prop) (st : List Value) : vc xs zH_78 (n + 1) b d 78 111 ml st t Q = vgi ml 6 (fun v => vc xs zH_78 n true d 78 113 ml (.int v :: st) t Q) := by
  rw [vc_q (o := (1, 0, 6, 1, [])) (by decide +kernel)]; rfl
theorem v_78_113 (xs : Option (List Int32)) (n : Nat) (b : Bool) (d : Nat) (ml : List Value) (t : T) (Q : Option Value → T → Prop) (st : List Value) : vc xs zH_78 (n + 1) b d 78 113 ml st t Q = (st.all zc1 = true ∧ vtk 5 st [] (fun as rest => rest.length ≤ 8 ∧ vrc as 12 (twc d 43 as t (fun r t' => vc xs zH_78 n true d 78 116 ml (r.toList ++ rest) t' Q)))) := by
  rw [vc_q (o := (36, 0, 43, 4, [(0, 12)])) (by decide +kernel)]; rfl
theorem v_78_116 (xs : Option (List Int32)) (n : Nat) (b : Bool) (d : Nat) (ml : List Value) (t : T) (Q : Option Value → T → Prop) (st : List Value) : vc xs zH_78 (n + 1) b d 78 116 ml st t Q = (st.all zc1 = true ∧ vtk 4 st [] (fun as rest => rest.length ≤ 8 ∧ vrc as 12 (twc d 39 as t (fun r t' => vc xs zH_78 n true d 78 119 ml (r.toList ++ rest) t' Q)))) := by
  rw [vc_q (o := (36, 0, 39, 3, [(0, 12)])) (by decide +kernel)]; rfl
theorem v_78_119 (xs : Option (List Int32)) (n : Nat) (b : Bool) (d : Nat) (ml : List Value) (t : T) (Q : Option Value → T → Prop) (st : List Value) : vc xs zH_78 (n + 1) b d 78 119 ml st t Q = vga ml 0 (fun v => vc xs zH_78 n true d 78 120 ml (.ref v :: st) t Q) := by
  rw [vc_q (o := (2, 0, 0, 0, [])) (by decide +kernel)]; rfl
theorem v_78_120 (xs : Option (List Int32)) (n : Nat) (b : Bool) (d : Nat) (ml : List Value) (t : T) (Q : Option Value → T → Prop) (st : List Value) : vc xs zH_78 (n + 1) b d 78 120 ml st t Q = vgi ml 2 (fun v => vc xs zH_78 n true d 78 121 ml (.int v :: st) t Q) := by
  rw [vc_q (o := (1, 0, 2, 0, [])) (by decide +kernel)]; rfl
theorem v_78_121 (xs : Option (List Int32)) (n : Nat) (b : Bool) (d : Nat) (ml : List Value) (t : T) (Q : Option Value → T → Prop) (st : List Value) : vc xs zH_78 (n + 1) b d 78 121 ml st t Q = vgi ml 5 (fun v => vc xs zH_78 n true d 78 123 ml (.int v :: st) t Q) := by
  rw [vc_q (o := (1, 0, 5, 1, [])) (by decide +kernel)]; rfl
theorem v_78_123 (xs : Option (List Int32)) (n : Nat) (b : Bool) (d : Nat) (ml : List Value) (t : T) (Q : Option Value → T → Prop) (st : List Value) : vc xs zH_78 (n + 1) b d 78 123 ml st t Q = vgi ml 6 (fun v => vc xs zH_78 n true d 78 125 ml (.int v :: st) t Q) := by
  rw [vc_q (o := (1, 0, 6, 1, [])) (by decide +kernel)]; rfl
theorem v_78_125 (xs : Option (List Int32)) (n : Nat) (b : Bool) (d : Nat) (ml : List Value) (t : T) (Q : Option Value → T → Prop) (st : List Value) : vc xs zH_78 (n + 1) b d 78 125 ml st t Q = vgi ml 4 (fun v => vc xs zH_78 n true d 78 127 ml (.int v :: st) t Q) := by
  rw [vc_q (o := (1, 0, 4, 1, [])) (by decide +kernel)]; rfl
theorem v_78_127 (xs : Option (List Int32)) (n : Nat) (b : Bool) (d : Nat) (ml : List Value) (t : T) (Q : Option Value → T → Prop) (st : List Value) : vc xs zH_78 (n + 1) b d 78 127 ml st t Q = (st.all zc1 = true ∧ vtk 3 st [] (fun as rest => rest.length ≤ 8 ∧ twc d 41 as t (fun r t' => vc xs zH_78 n true d 78 130 ml (r.toList ++ rest) t' Q))) := by
  rw [vc_q (o := (37, 0, 41, 3, [])) (by decide +kernel)]; rfl
theorem v_78_130 (xs : Option (List Int32)) (n : Nat) (b : Bool) (d : Nat) (ml : List Value) (t : T) (Q : Option Value → T → Prop) (st : List Value) : vc xs zH_78 (n + 1) b d 78 130 ml st t Q = vga ml 0 (fun v => vc xs zH_78 n true d 78 131 ml (.ref v :: st) t Q) := by
  rw [vc_q (o := (2, 0, 0, 0, [])) (by decide +kernel)]; rfl
theorem v_78_131 (xs : Option (List Int32)) (n : Nat) (b : Bool) (d : Nat) (ml : List Value) (t : T) (Q : Option Value → T → Prop) (st : List Value) : vc xs zH_78 (n + 1) b d 78 131 ml st t Q = vgi ml 1 (fun v => vc xs zH_78 n true d 78 132 ml (.int v :: st) t Q) := by
  rw [vc_q (o := (1, 0, 1, 0, [])) (by decide +kernel)]; rfl
theorem v_78_132 (xs : Option (List Int32)) (n : Nat) (b : Bool) (d : Nat) (ml : List Value) (t : T) (Q : Option Value → T → Prop) (st : List Value) : vc xs zH_78 (n + 1) b d 78 132 ml st t Q = vgi ml 5 (fun v => vc xs zH_78 n true d 78 134 ml (.int v :: st) t Q) := by
  rw [vc_q (o := (1, 0, 5, 1, [])) (by decide +kernel)]; rfl
theorem v_78_134 (xs : Option (List Int32)) (n : Nat) (b : Bool) (d : Nat) (ml : List Value) (t : T) (Q : Option Value → T → Prop) (st : List Value) : vc xs zH_78 (n + 1) b d 78 134 ml st t Q = vgi ml 6 (fun v => vc xs zH_78 n true d 78 136 ml (.int v :: st) t Q) := by
  rw [vc_q (o := (1, 0, 6, 1, [])) (by decide +kernel)]; rfl
theorem v_78_136 (xs : Option (List Int32)) (n : Nat) (b : Bool) (d : Nat) (ml : List Value) (t : T) (Q : Option Value → T → Prop) (st : List Value) : vc xs zH_78 (n + 1) b d 78 136 ml st t Q = vgi ml 3 (fun v => vc xs zH_78 n true d 78 137 ml (.int v :: st) t Q) := by
  rw [vc_q (o := (1, 0, 3, 0, [])) (by decide +kernel)]; rfl
theorem v_78_137 (xs : Option (List Int32)) (n : Nat) (b : Bool) (d : Nat) (ml : List Value) (t : T) (Q : Option Value → T → Prop) (st : List Value) : vc xs zH_78 (n + 1) b d 78 137 ml st t Q = (st.all zc1 = true ∧ vtk 5 st [] (fun as rest => rest.length ≤ 8 ∧ vrc as 12 (twc d 43 as t (fun r t' => vc xs zH_78 n true d 78 140 ml (r.toList ++ rest) t' Q)))) := by
  rw [vc_q (o := (36, 0, 43, 4, [(0, 12)])) (by decide +kernel)]; rfl
theorem v_78_140 (xs : Option (List Int32)) (n : Nat) (b : Bool) (d : Nat) (ml : List Value) (t : T) (Q : Option Value → T → Prop) (st : List Value) : vc xs zH_78 (n + 1) b d 78 140 ml st t Q = (st.all zc1 = true ∧ vtk 4 st [] (fun as rest => rest.length ≤ 8 ∧ vrc as 12 (twc d 39 as t (fun r t' => vc xs zH_78 n true d 78 143 ml (r.toList ++ rest) t' Q)))) := by
  rw [vc_q (o := (36, 0, 39, 3, [(0, 12)])) (by decide +kernel)]; rfl
theorem v_78_143 (xs : Option (List Int32)) (n : Nat) (b : Bool) (d : Nat) (ml : List Value) (t : T) (Q : Option Value → T → Prop) (st : List Value) : vc xs zH_78 (n + 1) b d 78 143 ml st t Q = vgi ml 6 (fun v => vset ml 6 (.int (v + 1)) (fun l => vc xs zH_78 n true d 78 146 l st t Q)) := by
  rw [vc_q (o := (5, 1, 6, 0, [])) (by decide +kernel)]; rfl
theorem v_78_146 (xs : Option (List Int32)) (n : Nat) (b : Bool) (d : Nat) (ml : List Value) (t : T) (Q : Option Value → T → Prop) (st : List Value) : vc xs zH_78 (n + 1) b d 78 146 ml st t Q = vc xs zH_78 n true d 78 88 ml st t Q := by
  rw [vc_q (o := (22, 0, 88, 0, [])) (by decide +kernel)]; rfl
theorem v_78_149 (xs : Option (List Int32)) (n : Nat) (b : Bool) (d : Nat) (ml : List Value) (t : T) (Q : Option Value → T → Prop) (st : List Value) : vc xs zH_78 (n + 1) b d 78 149 ml st t Q = vga ml 0 (fun v => vc xs zH_78 n true d 78 150 ml (.ref v :: st) t Q) := by
  rw [vc_q (o := (2, 0, 0, 0, [])) (by decide +kernel)]; rfl
theorem v_78_150 (xs : Option (List Int32)) (n : Nat) (b : Bool) (d : Nat) (ml : List Value) (t : T) (Q : Option Value → T → Prop) (st : List Value) : vc xs zH_78 (n + 1) b d 78 150 ml st t Q = vgi ml 2 (fun v => vc xs zH_78 n true d 78 151 ml (.int v :: st) t Q) := by
  rw [vc_q (o := (1, 0, 2, 0, [])) (by decide +kernel)]; rfl
theorem v_78_151 (xs : Option (List Int32)) (n : Nat) (b : Bool) (d : Nat) (ml : List Value) (t : T) (Q : Option Value → T → Prop) (st : List Value) : vc xs zH_78 (n + 1) b d 78 151 ml st t Q = vgi ml 5 (fun v => vc xs zH_78 n true d 78 153 ml (.int v :: st) t Q) := by
  rw [vc_q (o := (1, 0, 5, 1, [])) (by decide +kernel)]; rfl
theorem v_78_153 (xs : Option (List Int32)) (n : Nat) (b : Bool) (d : Nat) (ml : List Value) (t : T) (Q : Option Value → T → Prop) (st : List Value) : vc xs zH_78 (n + 1) b d 78 153 ml st t Q = vgi ml 4 (fun v => vc xs zH_78 n true d 78 155 ml (.int v :: st) t Q) := by
  rw [vc_q (o := (1, 0, 4, 1, [])) (by decide +kernel)]; rfl
theorem v_78_155 (xs : Option (List Int32)) (n : Nat) (b : Bool) (d : Nat) (ml : List Value) (t : T) (Q : Option Value → T → Prop) (st : List Value) : vc xs zH_78 (n + 1) b d 78 155 ml st t Q = vgi ml 4 (fun v => vc xs zH_78 n true d 78 157 ml (.int v :: st) t Q) := by
  rw [vc_q (o := (1, 0, 4, 1, [])) (by decide +kernel)]; rfl
theorem v_78_157 (xs : Option (List Int32)) (n : Nat) (b : Bool) (d : Nat) (ml : List Value) (t : T) (Q : Option Value → T → Prop) (st : List Value) : vc xs zH_78 (n + 1) b d 78 157 ml st t Q = (st.all zc1 = true ∧ vtk 3 st [] (fun as rest => rest.length ≤ 8 ∧ twc d 41 as t (fun r t' => vc xs zH_78 n true d 78 160 ml (r.toList ++ rest) t' Q))) := by
  rw [vc_q (o := (37, 0, 41, 3, [])) (by decide +kernel)]; rfl
theorem v_78_160 (xs : Option (List Int32)) (n : Nat) (b : Bool) (d : Nat) (ml : List Value) (t : T) (Q : Option Value → T → Prop) (st : List Value) : vc xs zH_78 (n + 1) b d 78 160 ml st t Q = vga ml 0 (fun v => vc xs zH_78 n true d 78 161 ml (.ref v :: st) t Q) := by
  rw [vc_q (o := (2, 0, 0, 0, [])) (by decide +kernel)]; rfl
theorem v_78_161 (xs : Option (List Int32)) (n : Nat) (b : Bool) (d : Nat) (ml : List Value) (t : T) (Q : Option Value → T → Prop) (st : List Value) : vc xs zH_78 (n + 1) b d 78 161 ml st t Q = vgi ml 1 (fun v => vc xs zH_78 n true d 78 162 ml (.int v :: st) t Q) := by
  rw [vc_q (o := (1, 0, 1, 0, [])) (by decide +kernel)]; rfl
theorem v_78_162 (xs : Option (List Int32)) (n : Nat) (b : Bool) (d : Nat) (ml : List Value) (t : T) (Q : Option Value → T → Prop) (st : List Value) : vc xs zH_78 (n + 1) b d 78 162 ml st t Q = vgi ml 5 (fun v => vc xs zH_78 n true d 78 164 ml (.int v :: st) t Q) := by
  rw [vc_q (o := (1, 0, 5, 1, [])) (by decide +kernel)]; rfl
theorem v_78_164 (xs : Option (List Int32)) (n : Nat) (b : Bool) (d : Nat) (ml : List Value) (t : T) (Q : Option Value → T → Prop) (st : List Value) : vc xs zH_78 (n + 1) b d 78 164 ml st t Q = vgi ml 3 (fun v => vc xs zH_78 n true d 78 165 ml (.int v :: st) t Q) := by
  rw [vc_q (o := (1, 0, 3, 0, [])) (by decide +kernel)]; rfl
theorem v_78_165 (xs : Option (List Int32)) (n : Nat) (b : Bool) (d : Nat) (ml : List Value) (t : T) (Q : Option Value → T → Prop) (st : List Value) : vc xs zH_78 (n + 1) b d 78 165 ml st t Q = vgi ml 3 (fun v => vc xs zH_78 n true d 78 166 ml (.int v :: st) t Q) := by
  rw [vc_q (o := (1, 0, 3, 0, [])) (by decide +kernel)]; rfl
theorem v_78_166 (xs : Option (List Int32)) (n : Nat) (b : Bool) (d : Nat) (ml : List Value) (t : T) (Q : Option Value → T → Prop) (st : List Value) : vc xs zH_78 (n + 1) b d 78 166 ml st t Q = (st.all zc1 = true ∧ vtk 5 st [] (fun as rest => rest.length ≤ 8 ∧ vrc as 12 (twc d 43 as t (fun r t' => vc xs zH_78 n true d 78 169 ml (r.toList ++ rest) t' Q)))) := by
  rw [vc_q (o := (36, 0, 43, 4, [(0, 12)])) (by decide +kernel)]; rfl
theorem v_78_169 (xs : Option (List Int32)) (n : Nat) (b : Bool) (d : Nat) (ml : List Value) (t : T) (Q : Option Value → T → Prop) (st : List Value) : vc xs zH_78 (n + 1) b d 78 169 ml st t Q = (st.all zc1 = true ∧ vtk 4 st [] (fun as rest => rest.length ≤ 8 ∧ vrc as 12 (twc d 39 as t (fun r t' => vc xs zH_78 n true d 78 172 ml (r.toList ++ rest) t' Q)))) := by
  rw [vc_q (o := (36, 0, 39, 3, [(0, 12)])) (by decide +kernel)]; rfl
theorem v_78_172 (xs : Option (List Int32)) (n : Nat) (b : Bool) (d : Nat) (ml : List Value) (t : T) (Q : Option Value → T → Prop) (st : List Value) : vc xs zH_78 (n + 1) b d 78 172 ml st t Q = vgi ml 5 (fun v => vset ml 5 (.int (v + 1)) (fun l => vc xs zH_78 n true d 78 175 l st t Q)) := by
  rw [vc_q (o := (5, 1, 5, 0, [])) (by decide +kernel)]; rfl
theorem v_78_175 (xs : Option (List Int32)) (n : Nat) (b : Bool) (d : Nat) (ml : List Value) (t : T) (Q : Option Value → T → Prop) (st : List Value) : vc xs zH_78 (n + 1) b d 78 175 ml st t Q = vc xs zH_78 n true d 78 78 ml st t Q := by
  rw [vc_q (o := (22, 0, 78, 0, [])) (by decide +kernel)]; rfl
theorem v_78_178 (xs : Option (List Int32)) (n : Nat) (b : Bool) (d : Nat) (ml : List Value) (t : T) (Q : Option Value → T → Prop) (st : List Value) : vc xs zH_78 (n + 1) b d 78 178 ml st t Q = vc xs zH_78 n true d 78 179 ml (.int 1 :: st) t Q := by
  rw [vc_q (o := (0, 1, 0, 0, [])) (by decide +kernel)]; rfl
theorem v_78_179 (xs : Option (List Int32)) (n : Nat) (b : Bool) (d : Nat) (ml : List Value) (t : T) (Q : Option Value → T → Prop) (v : Int32) : vc xs zH_78 (n + 1) b d 78 179 ml [.int v] t Q = ((v = 0 ∨ v = 1) ∧ Q (some (.int v)) t) := by
  rw [vc_q (o := (41, 0, 0, 0, [])) (by decide +kernel)]; rfl
def zH_79 : List Nat := [3]
theorem v_79_0 (xs : Option (List Int32)) (n : Nat) (b : Bool) (d : Nat) (ml : List Value) (t : T) (Q : Option Value → T → Prop) (st : List Value) : vc xs zH_79 (n + 1) b d 79 0 ml st t Q = vc xs zH_79 n true d 79 1 ml (.int 0 :: st) t Q := by
  rw [vc_q (o := (0, 0, 0, 0, [])) (by decide +kernel)]; rfl
theorem v_79_1 (xs : Option (List Int32)) (n : Nat) (b : Bool) (d : Nat) (ml : List Value) (t : T) (Q : Option Value → T → Prop) (v : Int32) (r : List Value) : vc xs zH_79 (n + 1) b d 79 1 ml (.int v :: r) t Q = vset ml 4 (.int v) (fun l => vc xs zH_79 n true d 79 3 l r t Q) := by
  rw [vc_q (o := (3, 0, 4, 1, [])) (by decide +kernel)]; rfl
theorem v_79_3 (xs : Option (List Int32)) (n : Nat) (d : Nat) (ml : List Value) (t : T) (Q : Option Value → T → Prop) (st : List Value) : vc xs zH_79 (n + 1) false d 79 3 ml st t Q = vgi ml 4 (fun v => vc xs zH_79 n true d 79 5 ml (.int v :: st) t Q) := by
  rw [vc_q (o := (1, 0, 4, 1, [])) (by decide +kernel)]; rfl
theorem h_79_3 (xs : Option (List Int32)) (n d : Nat) (ml st : List Value) (t : T) (Q : Option Value → T → Prop) : vc xs zH_79 (n + 1) true d 79 3 ml st t Q = twp xs d 79 3 ml st t Q := id rfl
theorem v_79_5 (xs : Option (List Int32)) (n : Nat) (b : Bool) (d : Nat) (ml : List Value) (t : T) (Q : Option Value → T → Prop) (st : List Value) : vc xs zH_79 (n + 1) b d 79 5 ml st t Q = vga ml 0 (fun v => vc xs zH_79 n true d 79 6 ml (.ref v :: st) t Q) := by
  rw [vc_q (o := (2, 0, 0, 0, [])) (by decide +kernel)]; rfl
theorem v_79_6 (xs : Option (List Int32)) (n : Nat) (b : Bool) (d : Nat) (ml : List Value) (t : T) (Q : Option Value → T → Prop) (st : List Value) : vc xs zH_79 (n + 1) b d 79 6 ml st t Q = vgi ml 1 (fun v => vc xs zH_79 n true d 79 7 ml (.int v :: st) t Q) := by
  rw [vc_q (o := (1, 0, 1, 0, [])) (by decide +kernel)]; rfl
theorem v_79_7 (xs : Option (List Int32)) (n : Nat) (b : Bool) (d : Nat) (ml : List Value) (t : T) (Q : Option Value → T → Prop) (st : List Value) : vc xs zH_79 (n + 1) b d 79 7 ml st t Q = (st.all zc1 = true ∧ vtk 2 st [] (fun as rest => rest.length ≤ 8 ∧ vrc as 12 (twc d 40 as t (fun r t' => vc xs zH_79 n true d 79 10 ml (r.toList ++ rest) t' Q)))) := by
  rw [vc_q (o := (36, 0, 40, 1, [(0, 12)])) (by decide +kernel)]; rfl
theorem v_79_10 (xs : Option (List Int32)) (n : Nat) (b : Bool) (d : Nat) (ml : List Value) (t : T) (Q : Option Value → T → Prop) (u v : Int32) (r : List Value) : vc xs zH_79 (n + 1) b d 79 10 ml (.int v :: .int u :: r) t Q = (if u < v then vc xs zH_79 n true d 79 13 ml r t Q else vc xs zH_79 n true d 79 65 ml r t Q) := by
  rw [vc_q (o := (20, 0, 65, 3, [])) (by decide +kernel)]; rfl
theorem v_79_13 (xs : Option (List Int32)) (n : Nat) (b : Bool) (d : Nat) (ml : List Value) (t : T) (Q : Option Value → T → Prop) (st : List Value) : vc xs zH_79 (n + 1) b d 79 13 ml st t Q = vgi ml 2 (fun v => vc xs zH_79 n true d 79 14 ml (.int v :: st) t Q) := by
  rw [vc_q (o := (1, 0, 2, 0, [])) (by decide +kernel)]; rfl
theorem v_79_14 (xs : Option (List Int32)) (n : Nat) (b : Bool) (d : Nat) (ml : List Value) (t : T) (Q : Option Value → T → Prop) (st : List Value) : vc xs zH_79 (n + 1) b d 79 14 ml st t Q = vc xs zH_79 n true d 79 16 ml (.int 6 :: st) t Q := by
  rw [vc_q (o := (0, 6, 1, 0, [])) (by decide +kernel)]; rfl
theorem v_79_16 (xs : Option (List Int32)) (n : Nat) (b : Bool) (d : Nat) (ml : List Value) (t : T) (Q : Option Value → T → Prop) (u v : Int32) (r : List Value) : vc xs zH_79 (n + 1) b d 79 16 ml (.int v :: .int u :: r) t Q = (if u < v then vc xs zH_79 n true d 79 19 ml r t Q else vc xs zH_79 n true d 79 31 ml r t Q) := by
  rw [vc_q (o := (20, 0, 31, 3, [])) (by decide +kernel)]; rfl
theorem v_79_19 (xs : Option (List Int32)) (n : Nat) (b : Bool) (d : Nat) (ml : List Value) (t : T) (Q : Option Value → T → Prop) (st : List Value) : vc xs zH_79 (n + 1) b d 79 19 ml st t Q = vga ml 0 (fun v => vc xs zH_79 n true d 79 20 ml (.ref v :: st) t Q) := by
  rw [vc_q (o := (2, 0, 0, 0, [])) (by decide +kernel)]; rfl
theorem v_79_20 (xs : Option (List Int32)) (n : Nat) (b : Bool) (d : Nat) (ml : List Value) (t : T) (Q : Option Value → T → Prop) (st : List Value) : vc xs zH_79 (n + 1) b d 79 20 ml st t Q = vgi ml 1 (fun v => vc xs zH_79 n true d 79 21 ml (.int v :: st) t Q) := by
  rw [vc_q (o := (1, 0, 1, 0, [])) (by decide +kernel)]; rfl
theorem v_79_21 (xs : Option (List Int32)) (n : Nat) (b : Bool) (d : Nat) (ml : List Value) (t : T) (Q : Option Value → T → Prop) (st : List Value) : vc xs zH_79 (n + 1) b d 79 21 ml st t Q = vgi ml 2 (fun v => vc xs zH_79 n true d 79 22 ml (.int v :: st) t Q) := by
  rw [vc_q (o := (1, 0, 2, 0, [])) (by decide +kernel)]; rfl
theorem v_79_22 (xs : Option (List Int32)) (n : Nat) (b : Bool) (d : Nat) (ml : List Value) (t : T) (Q : Option Value → T → Prop) (st : List Value) : vc xs zH_79 (n + 1) b d 79 22 ml st t Q = vgi ml 4 (fun v => vc xs zH_79 n true d 79 24 ml (.int v :: st) t Q) := by
  rw [vc_q (o := (1, 0, 4, 1, [])) (by decide +kernel)]; rfl
theorem v_79_24 (xs : Option (List Int32)) (n : Nat) (b : Bool) (d : Nat) (ml : List Value) (t : T) (Q : Option Value → T → Prop) (st : List Value) : vc xs zH_79 (n + 1) b d 79 24 ml st t Q = vc xs zH_79 n true d 79 25 ml (.int 0 :: st) t Q := by
  rw [vc_q (o := (0, 0, 0, 0, [])) (by decide +kernel)]; rfl
theorem v_79_25 (xs : Option (List Int32)) (n : Nat) (b : Bool) (d : Nat) (ml : List Value) (t : T) (Q : Option Value → T → Prop) (st : List Value) : vc xs zH_79 (n + 1) b d 79 25 ml st t Q = (st.all zc1 = true ∧ vtk 5 st [] (fun as rest => rest.length ≤ 8 ∧ vrc as 12 (twc d 43 as t (fun r t' => vc xs zH_79 n true d 79 28 ml (r.toList ++ rest) t' Q)))) := by
  rw [vc_q (o := (36, 0, 43, 4, [(0, 12)])) (by decide +kernel)]; rfl
theorem v_79_28 (xs : Option (List Int32)) (n : Nat) (b : Bool) (d : Nat) (ml : List Value) (t : T) (Q : Option Value → T → Prop) (st : List Value) : vc xs zH_79 (n + 1) b d 79 28 ml st t Q = vc xs zH_79 n true d 79 48 ml st t Q := by
  rw [vc_q (o := (22, 0, 48, 0, [])) (by decide +kernel)]; rfl
theorem v_79_31 (xs : Option (List Int32)) (n : Nat) (b : Bool) (d : Nat) (ml : List Value) (t : T) (Q : Option Value → T → Prop) (st : List Value) : vc xs zH_79 (n + 1) b d 79 31 ml st t Q = vgi ml 3 (fun v => vc xs zH_79 n true d 79 32 ml (.int v :: st) t Q) := by
  rw [vc_q (o := (1, 0, 3, 0, [])) (by decide +kernel)]; rfl
theorem v_79_32 (xs : Option (List Int32)) (n : Nat) (b : Bool) (d : Nat) (ml : List Value) (t : T) (Q : Option Value → T → Prop) (u : Int32) (r : List Value) : vc xs zH_79 (n + 1) b d 79 32 ml (.int u :: r) t Q = (if u < 0 then vc xs zH_79 n true d 79 35 ml r t Q else vc xs zH_79 n true d 79 39 ml r t Q) := by
  rw [vc_q (o := (21, 0, 39, 3, [])) (by decide +kernel)]; rfl
theorem v_79_35 (xs : Option (List Int32)) (n : Nat) (b : Bool) (d : Nat) (ml : List Value) (t : T) (Q : Option Value → T → Prop) (st : List Value) : vc xs zH_79 (n + 1) b d 79 35 ml st t Q = vc xs zH_79 n true d 79 36 ml (.int 0 :: st) t Q := by
  rw [vc_q (o := (0, 0, 0, 0, [])) (by decide +kernel)]; rfl
theorem v_79_36 (xs : Option (List Int32)) (n : Nat) (b : Bool) (d : Nat) (ml : List Value) (t : T) (Q : Option Value → T → Prop) (st : List Value) : vc xs zH_79 (n + 1) b d 79 36 ml st t Q = vc xs zH_79 n true d 79 48 ml st t Q := by
  rw [vc_q (o := (22, 0, 48, 0, [])) (by decide +kernel)]; rfl
theorem v_79_39 (xs : Option (List Int32)) (n : Nat) (b : Bool) (d : Nat) (ml : List Value) (t : T) (Q : Option Value → T → Prop) (st : List Value) : vc xs zH_79 (n + 1) b d 79 39 ml st t Q = vga ml 0 (fun v => vc xs zH_79 n true d 79 40 ml (.ref v :: st) t Q) := by
  rw [vc_q (o := (2, 0, 0, 0, [])) (by decide +kernel)]; rfl
theorem v_79_40 (xs : Option (List Int32)) (n : Nat) (b : Bool) (d : Nat) (ml : List Value) (t : T) (Q : Option Value → T → Prop) (st : List Value) : vc xs zH_79 (n + 1) b d 79 40 ml st t Q = vgi ml 1 (fun v => vc xs zH_79 n true d 79 41 ml (.int v :: st) t Q) := by
  rw [vc_q (o := (1, 0, 1, 0, [])) (by decide +kernel)]; rfl
theorem v_79_41 (xs : Option (List Int32)) (n : Nat) (b : Bool) (d : Nat) (ml : List Value) (t : T) (Q : Option Value → T → Prop) (st : List Value) : vc xs zH_79 (n + 1) b d 79 41 ml st t Q = vgi ml 2 (fun v => vc xs zH_79 n true d 79 42 ml (.int v :: st) t Q) := by
  rw [vc_q (o := (1, 0, 2, 0, [])) (by decide +kernel)]; rfl
theorem v_79_42 (xs : Option (List Int32)) (n : Nat) (b : Bool) (d : Nat) (ml : List Value) (t : T) (Q : Option Value → T → Prop) (st : List Value) : vc xs zH_79 (n + 1) b d 79 42 ml st t Q = vgi ml 3 (fun v => vc xs zH_79 n true d 79 43 ml (.int v :: st) t Q) := by
  rw [vc_q (o := (1, 0, 3, 0, [])) (by decide +kernel)]; rfl
theorem v_79_43 (xs : Option (List Int32)) (n : Nat) (b : Bool) (d : Nat) (ml : List Value) (t : T) (Q : Option Value → T → Prop) (st : List Value) : vc xs zH_79 (n + 1) b d 79 43 ml st t Q = vgi ml 4 (fun v => vc xs zH_79 n true d 79 45 ml (.int v :: st) t Q) := by
  rw [vc_q (o := (1, 0, 4, 1, [])) (by decide +kernel)]; rfl
theorem v_79_45 (xs : Option (List Int32)) (n : Nat) (b : Bool) (d : Nat) (ml : List Value) (t : T) (Q : Option Value → T → Prop) (st : List Value) : vc xs zH_79 (n + 1) b d 79 45 ml st t Q = (st.all zc1 = true ∧ vtk 5 st [] (fun as rest => rest.length ≤ 8 ∧ vrc as 12 (twc d 43 as t (fun r t' => vc xs zH_79 n true d 79 48 ml (r.toList ++ rest) t' Q)))) := by
  rw [vc_q (o := (36, 0, 43, 4, [(0, 12)])) (by decide +kernel)]; rfl
theorem v_79_48 (xs : Option (List Int32)) (n : Nat) (b : Bool) (d : Nat) (ml : List Value) (t : T) (Q : Option Value → T → Prop) (v : Int32) (r : List Value) : vc xs zH_79 (n + 1) b d 79 48 ml (.int v :: r) t Q = vset ml 5 (.int v) (fun l => vc xs zH_79 n true d 79 50 l r t Q) := by
  rw [vc_q (o := (3, 0, 5, 1, [])) (by decide +kernel)]; rfl
theorem v_79_50 (xs : Option (List Int32)) (n : Nat) (b : Bool) (d : Nat) (ml : List Value) (t : T) (Q : Option Value → T → Prop) (st : List Value) : vc xs zH_79 (n + 1) b d 79 50 ml st t Q = vgi ml 5 (fun v => vc xs zH_79 n true d 79 52 ml (.int v :: st) t Q) := by
  rw [vc_q (o := (1, 0, 5, 1, [])) (by decide +kernel)]; rfl
theorem v_79_52 (xs : Option (List Int32)) (n : Nat) (b : Bool) (d : Nat) (ml : List Value) (t : T) (Q : Option Value → T → Prop) (st : List Value) : vc xs zH_79 (n + 1) b d 79 52 ml st t Q = vc xs zH_79 n true d 79 53 ml (.int 2 :: st) t Q := by
  rw [vc_q (o := (0, 2, 0, 0, [])) (by decide +kernel)]; rfl
theorem v_79_53 (xs : Option (List Int32)) (n : Nat) (b : Bool) (d : Nat) (ml : List Value) (t : T) (Q : Option Value → T → Prop) (u v : Int32) (r : List Value) : vc xs zH_79 (n + 1) b d 79 53 ml (.int v :: .int u :: r) t Q = (if u = v then vc xs zH_79 n true d 79 56 ml r t Q else vc xs zH_79 n true d 79 59 ml r t Q) := by
  rw [vc_q (o := (20, 0, 59, 1, [])) (by decide +kernel)]; rfl
theorem v_79_56 (xs : Option (List Int32)) (n : Nat) (b : Bool) (d : Nat) (ml : List Value) (t : T) (Q : Option Value → T → Prop) (st : List Value) : vc xs zH_79 (n + 1) b d 79 56 ml st t Q = vgi ml 4 (fun v => vc xs zH_79 n true d 79 58 ml (.int v :: st) t Q) := by
  rw [vc_q (o := (1, 0, 4, 1, [])) (by decide +kernel)]; rfl
theorem v_79_58 (xs : Option (List Int32)) (n : Nat) (b : Bool) (d : Nat) (ml : List Value) (t : T) (Q : Option Value → T → Prop) (v : Int32) : vc xs zH_79 (n + 1) b d 79 58 ml [.int v] t Q = Q (some (.int v)) t := by
  rw [vc_q (o := (40, 0, 0, 0, [])) (by decide +kernel)]; rfl
theorem v_79_59 (xs : Option (List Int32)) (n : Nat) (b : Bool) (d : Nat) (ml : List Value) (t : T) (Q : Option Value → T → Prop) (st : List Value) : vc xs zH_79 (n + 1) b d 79 59 ml st t Q = vgi ml 4 (fun v => vset ml 4 (.int (v + 1)) (fun l => vc xs zH_79 n true d 79 62 l st t Q)) := by
  rw [vc_q (o := (5, 1, 4, 0, [])) (by decide +kernel)]; rfl
theorem v_79_62 (xs : Option (List Int32)) (n : Nat) (b : Bool) (d : Nat) (ml : List Value) (t : T) (Q : Option Value → T → Prop) (st : List Value) : vc xs zH_79 (n + 1) b d 79 62 ml st t Q = vc xs zH_79 n true d 79 3 ml st t Q := by
  rw [vc_q (o := (22, 0, 3, 0, [])) (by decide +kernel)]; rfl
theorem v_79_65 (xs : Option (List Int32)) (n : Nat) (b : Bool) (d : Nat) (ml : List Value) (t : T) (Q : Option Value → T → Prop) (st : List Value) : vc xs zH_79 (n + 1) b d 79 65 ml st t Q = vc xs zH_79 n true d 79 66 ml (.int (-1) :: st) t Q := by
  rw [vc_q (o := (0, (-1), 0, 0, [])) (by decide +kernel)]; rfl
theorem v_79_66 (xs : Option (List Int32)) (n : Nat) (b : Bool) (d : Nat) (ml : List Value) (t : T) (Q : Option Value → T → Prop) (v : Int32) : vc xs zH_79 (n + 1) b d 79 66 ml [.int v] t Q = Q (some (.int v)) t := by
  rw [vc_q (o := (40, 0, 0, 0, [])) (by decide +kernel)]; rfl
def zH_80 : List Nat := [3]
theorem v_80_0 (xs : Option (List Int32)) (n : Nat) (b : Bool) (d : Nat) (ml : List Value) (t : T) (Q : Option Value → T → Prop) (st : List Value) : vc xs zH_80 (n + 1) b d 80 0 ml st t Q = vc xs zH_80 n true d 80 1 ml (.int 0 :: st) t Q := by
  rw [vc_q (o := (0, 0, 0, 0, [])) (by decide +kernel)]; rfl
theorem v_80_1 (xs : Option (List Int32)) (n : Nat) (b : Bool) (d : Nat) (ml : List Value) (t : T) (Q : Option Value → T → Prop) (v : Int32) (r : List Value) : vc xs zH_80 (n + 1) b d 80 1 ml (.int v :: r) t Q = vset ml 4 (.int v) (fun l => vc xs zH_80 n true d 80 3 l r t Q) := by
  rw [vc_q (o := (3, 0, 4, 1, [])) (by decide +kernel)]; rfl
theorem v_80_3 (xs : Option (List Int32)) (n : Nat) (d : Nat) (ml : List Value) (t : T) (Q : Option Value → T → Prop) (st : List Value) : vc xs zH_80 (n + 1) false d 80 3 ml st t Q = vgi ml 4 (fun v => vc xs zH_80 n true d 80 5 ml (.int v :: st) t Q) := by
  rw [vc_q (o := (1, 0, 4, 1, [])) (by decide +kernel)]; rfl
theorem h_80_3 (xs : Option (List Int32)) (n d : Nat) (ml st : List Value) (t : T) (Q : Option Value → T → Prop) : vc xs zH_80 (n + 1) true d 80 3 ml st t Q = twp xs d 80 3 ml st t Q := id rfl
theorem v_80_5 (xs : Option (List Int32)) (n : Nat) (b : Bool) (d : Nat) (ml : List Value) (t : T) (Q : Option Value → T → Prop) (st : List Value) : vc xs zH_80 (n + 1) b d 80 5 ml st t Q = vga ml 0 (fun v => vc xs zH_80 n true d 80 6 ml (.ref v :: st) t Q) := by
  rw [vc_q (o := (2, 0, 0, 0, [])) (by decide +kernel)]; rfl
theorem v_80_6 (xs : Option (List Int32)) (n : Nat) (b : Bool) (d : Nat) (ml : List Value) (t : T) (Q : Option Value → T → Prop) (st : List Value) : vc xs zH_80 (n + 1) b d 80 6 ml st t Q = vgi ml 1 (fun v => vc xs zH_80 n true d 80 7 ml (.int v :: st) t Q) := by
  rw [vc_q (o := (1, 0, 1, 0, [])) (by decide +kernel)]; rfl
theorem v_80_7 (xs : Option (List Int32)) (n : Nat) (b : Bool) (d : Nat) (ml : List Value) (t : T) (Q : Option Value → T → Prop) (st : List Value) : vc xs zH_80 (n + 1) b d 80 7 ml st t Q = (st.all zc1 = true ∧ vtk 2 st [] (fun as rest => rest.length ≤ 8 ∧ vrc as 12 (twc d 40 as t (fun r t' => vc xs zH_80 n true d 80 10 ml (r.toList ++ rest) t' Q)))) := by
  rw [vc_q (o := (36, 0, 40, 1, [(0, 12)])) (by decide +kernel)]; rfl
theorem v_80_10 (xs : Option (List Int32)) (n : Nat) (b : Bool) (d : Nat) (ml : List Value) (t : T) (Q : Option Value → T → Prop) (u v : Int32) (r : List Value) : vc xs zH_80 (n + 1) b d 80 10 ml (.int v :: .int u :: r) t Q = (if u < v then vc xs zH_80 n true d 80 13 ml r t Q else vc xs zH_80 n true d 80 50 ml r t Q) := by
  rw [vc_q (o := (20, 0, 50, 3, [])) (by decide +kernel)]; rfl
theorem v_80_13 (xs : Option (List Int32)) (n : Nat) (b : Bool) (d : Nat) (ml : List Value) (t : T) (Q : Option Value → T → Prop) (st : List Value) : vc xs zH_80 (n + 1) b d 80 13 ml st t Q = vgi ml 2 (fun v => vc xs zH_80 n true d 80 14 ml (.int v :: st) t Q) := by
  rw [vc_q (o := (1, 0, 2, 0, [])) (by decide +kernel)]; rfl
theorem v_80_14 (xs : Option (List Int32)) (n : Nat) (b : Bool) (d : Nat) (ml : List Value) (t : T) (Q : Option Value → T → Prop) (st : List Value) : vc xs zH_80 (n + 1) b d 80 14 ml st t Q = vc xs zH_80 n true d 80 15 ml (.int 5 :: st) t Q := by
  rw [vc_q (o := (0, 5, 0, 0, [])) (by decide +kernel)]; rfl
theorem v_80_15 (xs : Option (List Int32)) (n : Nat) (b : Bool) (d : Nat) (ml : List Value) (t : T) (Q : Option Value → T → Prop) (u v : Int32) (r : List Value) : vc xs zH_80 (n + 1) b d 80 15 ml (.int v :: .int u :: r) t Q = (if v < u then vc xs zH_80 n true d 80 18 ml r t Q else vc xs zH_80 n true d 80 50 ml r t Q) := by
  rw [vc_q (o := (20, 0, 50, 5, [])) (by decide +kernel)]; rfl
theorem v_80_18 (xs : Option (List Int32)) (n : Nat) (b : Bool) (d : Nat) (ml : List Value) (t : T) (Q : Option Value → T → Prop) (st : List Value) : vc xs zH_80 (n + 1) b d 80 18 ml st t Q = vga ml 0 (fun v => vc xs zH_80 n true d 80 19 ml (.ref v :: st) t Q) := by
  rw [vc_q (o := (2, 0, 0, 0, [])) (by decide +kernel)]; rfl
theorem v_80_19 (xs : Option (List Int32)) (n : Nat) (b : Bool) (d : Nat) (ml : List Value) (t : T) (Q : Option Value → T → Prop) (st : List Value) : vc xs zH_80 (n + 1) b d 80 19 ml st t Q = vgi ml 1 (fun v => vc xs zH_80 n true d 80 20 ml (.int v :: st) t Q) := by
  rw [vc_q (o := (1, 0, 1, 0, [])) (by decide +kernel)]; rfl
theorem v_80_20 (xs : Option (List Int32)) (n : Nat) (b : Bool) (d : Nat) (ml : List Value) (t : T) (Q : Option Value → T → Prop) (st : List Value) : vc xs zH_80 (n + 1) b d 80 20 ml st t Q = vgi ml 3 (fun v => vc xs zH_80 n true d 80 21 ml (.int v :: st) t Q) := by
  rw [vc_q (o := (1, 0, 3, 0, [])) (by decide +kernel)]; rfl
theorem v_80_21 (xs : Option (List Int32)) (n : Nat) (b : Bool) (d : Nat) (ml : List Value) (t : T) (Q : Option Value → T → Prop) (st : List Value) : vc xs zH_80 (n + 1) b d 80 21 ml st t Q = vgi ml 4 (fun v => vc xs zH_80 n true d 80 23 ml (.int v :: st) t Q) := by
  rw [vc_q (o := (1, 0, 4, 1, [])) (by decide +kernel)]; rfl
theorem v_80_23 (xs : Option (List Int32)) (n : Nat) (b : Bool) (d : Nat) (ml : List Value) (t : T) (Q : Option Value → T → Prop) (st : List Value) : vc xs zH_80 (n + 1) b d 80 23 ml st t Q = vc xs zH_80 n true d 80 24 ml (.int 0 :: st) t Q := by
  rw [vc_q (o := (0, 0, 0, 0, [])) (by decide +kernel)]; rfl
theorem v_80_24 (xs : Option (List Int32)) (n : Nat) (b : Bool) (d : Nat) (ml : List Value) (t : T) (Q : Option Value → T → Prop) (st : List Value) : vc xs zH_80 (n + 1) b d 80 24 ml st t Q = (st.all zc1 = true ∧ vtk 5 st [] (fun as rest => rest.length ≤ 8 ∧ vrc as 12 (twc d 43 as t (fun r t' => vc xs zH_80 n true d 80 27 ml (r.toList ++ rest) t' Q)))) := by
  rw [vc_q (o := (36, 0, 43, 4, [(0, 12)])) (by decide +kernel)]; rfl
theorem v_80_27 (xs : Option (List Int32)) (n : Nat) (b : Bool) (d : Nat) (ml : List Value) (t : T) (Q : Option Value → T → Prop) (st : List Value) : vc xs zH_80 (n + 1) b d 80 27 ml st t Q = vc xs zH_80 n true d 80 28 ml (.int 1 :: st) t Q := by
  rw [vc_q (o := (0, 1, 0, 0, [])) (by decide +kernel)]; rfl
theorem v_80_28 (xs : Option (List Int32)) (n : Nat) (b : Bool) (d : Nat) (ml : List Value) (t : T) (Q : Option Value → T → Prop) (u v : Int32) (r : List Value) : vc xs zH_80 (n + 1) b d 80 28 ml (.int v :: .int u :: r) t Q = (if u = v then vc xs zH_80 n true d 80 31 ml r t Q else vc xs zH_80 n true d 80 44 ml r t Q) := by
  rw [vc_q (o := (20, 0, 44, 1, [])) (by decide +kernel)]; rfl
theorem v_80_31 (xs : Option (List Int32)) (n : Nat) (b : Bool) (d : Nat) (ml : List Value) (t : T) (Q : Option Value → T → Prop) (st : List Value) : vc xs zH_80 (n + 1) b d 80 31 ml st t Q = vga ml 0 (fun v => vc xs zH_80 n true d 80 32 ml (.ref v :: st) t Q) := by
  rw [vc_q (o := (2, 0, 0, 0, [])) (by decide +kernel)]; rfl
theorem v_80_32 (xs : Option (List Int32)) (n : Nat) (b : Bool) (d : Nat) (ml : List Value) (t : T) (Q : Option Value → T → Prop) (st : List Value) : vc xs zH_80 (n + 1) b d 80 32 ml st t Q = vgi ml 1 (fun v => vc xs zH_80 n true d 80 33 ml (.int v :: st) t Q) := by
  rw [vc_q (o := (1, 0, 1, 0, [])) (by decide +kernel)]; rfl
theorem v_80_33 (xs : Option (List Int32)) (n : Nat) (b : Bool) (d : Nat) (ml : List Value) (t : T) (Q : Option Value → T → Prop) (st : List Value) : vc xs zH_80 (n + 1) b d 80 33 ml st t Q = vgi ml 4 (fun v => vc xs zH_80 n true d 80 35 ml (.int v :: st) t Q) := by
  rw [vc_q (o := (1, 0, 4, 1, [])) (by decide +kernel)]; rfl
theorem v_80_35 (xs : Option (List Int32)) (n : Nat) (b : Bool) (d : Nat) (ml : List Value) (t : T) (Q : Option Value → T → Prop) (st : List Value) : vc xs zH_80 (n + 1) b d 80 35 ml st t Q = (st.all zc1 = true ∧ vtk 3 st [] (fun as rest => rest.length ≤ 8 ∧ vrc as 12 (twc d 42 as t (fun r t' => vc xs zH_80 n true d 80 38 ml (r.toList ++ rest) t' Q)))) := by
  rw [vc_q (o := (36, 0, 42, 2, [(0, 12)])) (by decide +kernel)]; rfl
theorem v_80_38 (xs : Option (List Int32)) (n : Nat) (b : Bool) (d : Nat) (ml : List Value) (t : T) (Q : Option Value → T → Prop) (u : Int32) (r : List Value) : vc xs zH_80 (n + 1) b d 80 38 ml (.int u :: r) t Q = (if u = 0 then vc xs zH_80 n true d 80 41 ml r t Q else vc xs zH_80 n true d 80 44 ml r t Q) := by
  rw [vc_q (o := (21, 0, 44, 1, [])) (by decide +kernel)]; rfl
theorem v_80_41 (xs : Option (List Int32)) (n : Nat) (b : Bool) (d : Nat) (ml : List Value) (t : T) (Q : Option Value → T → Prop) (st : List Value) : vc xs zH_80 (n + 1) b d 80 41 ml st t Q = vgi ml 4 (fun v => vc xs zH_80 n true d 80 43 ml (.int v :: st) t Q) := by
  rw [vc_q (o := (1, 0, 4, 1, [])) (by decide +kernel)]; rfl
theorem v_80_43 (xs : Option (List Int32)) (n : Nat) (b : Bool) (d : Nat) (ml : List Value) (t : T) (Q : Option Value → T → Prop) (v : Int32) : vc xs zH_80 (n + 1) b d 80 43 ml [.int v] t Q = Q (some (.int v)) t := by
  rw [vc_q (o := (40, 0, 0, 0, [])) (by decide +kernel)]; rfl
theorem v_80_44 (xs : Option (List Int32)) (n : Nat) (b : Bool) (d : Nat) (ml : List Value) (t : T) (Q : Option Value → T → Prop) (st : List Value) : vc xs zH_80 (n + 1) b d 80 44 ml st t Q = vgi ml 4 (fun v => vset ml 4 (.int (v + 1)) (fun l => vc xs zH_80 n true d 80 47 l st t Q)) := by
  rw [vc_q (o := (5, 1, 4, 0, [])) (by decide +kernel)]; rfl
theorem v_80_47 (xs : Option (List Int32)) (n : Nat) (b : Bool) (d : Nat) (ml : List Value) (t : T) (Q : Option Value → T → Prop) (st : List Value) : vc xs zH_80 (n + 1) b d 80 47 ml st t Q = vc xs zH_80 n true d 80 3 ml st t Q := by
  rw [vc_q (o := (22, 0, 3, 0, [])) (by decide +kernel)]; rfl
theorem v_80_50 (xs : Option (List Int32)) (n : Nat) (b : Bool) (d : Nat) (ml : List Value) (t : T) (Q : Option Value → T → Prop) (st : List Value) : vc xs zH_80 (n + 1) b d 80 50 ml st t Q = vc xs zH_80 n true d 80 51 ml (.int (-1) :: st) t Q := by
  rw [vc_q (o := (0, (-1), 0, 0, [])) (by decide +kernel)]; rfl
theorem v_80_51 (xs : Option (List Int32)) (n : Nat) (b : Bool) (d : Nat) (ml : List Value) (t : T) (Q : Option Value → T → Prop) (v : Int32) : vc xs zH_80 (n + 1) b d 80 51 ml [.int v] t Q = Q (some (.int v)) t := by
  rw [vc_q (o := (40, 0, 0, 0, [])) (by decide +kernel)]; rfl
def zH_81 : List Nat := [7, 84, 234, 254]
theorem v_81_0 (xs : Option (List Int32)) (n : Nat) (b : Bool) (d : Nat) (ml : List Value) (t : T) (Q : Option Value → T → Prop) (st : List Value) : vc xs zH_81 (n + 1) b d 81 0 ml st t Q = vga ml 0 (fun v => vc xs zH_81 n true d 81 1 ml (.ref v :: st) t Q) := by
  rw [vc_q (o := (2, 0, 0, 0, [])) (by decide +kernel)]; rfl
theorem v_81_1 (xs : Option (List Int32)) (n : Nat) (b : Bool) (d : Nat) (ml : List Value) (t : T) (Q : Option Value → T → Prop) (st : List Value) : vc xs zH_81 (n + 1) b d 81 1 ml st t Q = vc xs zH_81 n true d 81 2 ml (.int 1 :: st) t Q := by
  rw [vc_q (o := (0, 1, 0, 0, [])) (by decide +kernel)]; rfl
theorem v_81_2 (xs : Option (List Int32)) (n : Nat) (b : Bool) (d : Nat) (ml : List Value) (t : T) (Q : Option Value → T → Prop) (v : Int32) (u : Nat) (r : List Value) : vc xs zH_81 (n + 1) b d 81 2 ml (.int v :: .ref u :: r) t Q = (vtag u = 12 ∧ vc xs zH_81 n true d 81 5 ml r (tsi t u 26 v) Q) := by
  rw [vc_q (o := (26, 0, 12, 26, [])) (by decide +kernel)]; rfl
theorem v_81_5 (xs : Option (List Int32)) (n : Nat) (b : Bool) (d : Nat) (ml : List Value) (t : T) (Q : Option Value → T → Prop) (st : List Value) : vc xs zH_81 (n + 1) b d 81 5 ml st t Q = vc xs zH_81 n true d 81 6 ml (.int 0 :: st) t Q := by
  rw [vc_q (o := (0, 0, 0, 0, [])) (by decide +kernel)]; rfl
theorem v_81_6 (xs : Option (List Int32)) (n : Nat) (b : Bool) (d : Nat) (ml : List Value) (t : T) (Q : Option Value → T → Prop) (v : Int32) (r : List Value) : vc xs zH_81 (n + 1) b d 81 6 ml (.int v :: r) t Q = vset ml 3 (.int v) (fun l => vc xs zH_81 n true d 81 7 l r t Q) := by
  rw [vc_q (o := (3, 0, 3, 0, [])) (by decide +kernel)]; rfl
theorem v_81_7 (xs : Option (List Int32)) (n : Nat) (d : Nat) (ml : List Value) (t : T) (Q : Option Value → T → Prop) (st : List Value) : vc xs zH_81 (n + 1) false d 81 7 ml st t Q = vgi ml 3 (fun v => vc xs zH_81 n true d 81 8 ml (.int v :: st) t Q) := by
  rw [vc_q (o := (1, 0, 3, 0, [])) (by decide +kernel)]; rfl
theorem h_81_7 (xs : Option (List Int32)) (n d : Nat) (ml st : List Value) (t : T) (Q : Option Value → T → Prop) : vc xs zH_81 (n + 1) true d 81 7 ml st t Q = twp xs d 81 7 ml st t Q := id rfl
theorem v_81_8 (xs : Option (List Int32)) (n : Nat) (b : Bool) (d : Nat) (ml : List Value) (t : T) (Q : Option Value → T → Prop) (st : List Value) : vc xs zH_81 (n + 1) b d 81 8 ml st t Q = vga ml 0 (fun v => vc xs zH_81 n true d 81 9 ml (.ref v :: st) t Q) := by
  rw [vc_q (o := (2, 0, 0, 0, [])) (by decide +kernel)]; rfl
theorem v_81_9 (xs : Option (List Int32)) (n : Nat) (b : Bool) (d : Nat) (ml : List Value) (t : T) (Q : Option Value → T → Prop) (u : Nat) (r : List Value) : vc xs zH_81 (n + 1) b d 81 9 ml (.ref u :: r) t Q = (vtag u = 12 ∧ vc xs zH_81 n true d 81 12 ml (.int (t.1 u 26) :: r) t Q) := by
  rw [vc_q (o := (24, 0, 12, 26, [])) (by decide +kernel)]; rfl
theorem v_81_12 (xs : Option (List Int32)) (n : Nat) (b : Bool) (d : Nat) (ml : List Value) (t : T) (Q : Option Value → T → Prop) (u v : Int32) (r : List Value) : vc xs zH_81 (n + 1) b d 81 12 ml (.int v :: .int u :: r) t Q = (if u < v then vc xs zH_81 n true d 81 15 ml r t Q else vc xs zH_81 n true d 81 257 ml r t Q) := by
  rw [vc_q (o := (20, 0, 257, 3, [])) (by decide +kernel)]; rfl
theorem v_81_15 (xs : Option (List Int32)) (n : Nat) (b : Bool) (d : Nat) (ml : List Value) (t : T) (Q : Option Value → T → Prop) (st : List Value) : vc xs zH_81 (n + 1) b d 81 15 ml st t Q = vgi ml 1 (fun v => vc xs zH_81 n true d 81 16 ml (.int v :: st) t Q) := by
  rw [vc_q (o := (1, 0, 1, 0, [])) (by decide +kernel)]; rfl
theorem v_81_16 (xs : Option (List Int32)) (n : Nat) (b : Bool) (d : Nat) (ml : List Value) (t : T) (Q : Option Value → T → Prop) (st : List Value) : vc xs zH_81 (n + 1) b d 81 16 ml st t Q = vc xs zH_81 n true d 81 18 ml (.int 8 :: st) t Q := by
  rw [vc_q (o := (0, 8, 1, 0, [])) (by decide +kernel)]; rfl
theorem v_81_18 (xs : Option (List Int32)) (n : Nat) (b : Bool) (d : Nat) (ml : List Value) (t : T) (Q : Option Value → T → Prop) (u v : Int32) (r : List Value) : vc xs zH_81 (n + 1) b d 81 18 ml (.int v :: .int u :: r) t Q = (if u < v then vc xs zH_81 n true d 81 21 ml r t Q else vc xs zH_81 n true d 81 257 ml r t Q) := by
  rw [vc_q (o := (20, 0, 257, 3, [])) (by decide +kernel)]; rfl
theorem v_81_21 (xs : Option (List Int32)) (n : Nat) (b : Bool) (d : Nat) (ml : List Value) (t : T) (Q : Option Value → T → Prop) (st : List Value) : vc xs zH_81 (n + 1) b d 81 21 ml st t Q = vc xs zH_81 n true d 81 24 ml (.int 140 :: st) t Q := by
  rw [vc_q (o := (0, 140, 2, 0, [])) (by decide +kernel)]; rfl
theorem v_81_24 (xs : Option (List Int32)) (n : Nat) (b : Bool) (d : Nat) (ml : List Value) (t : T) (Q : Option Value → T → Prop) (st : List Value) : vc xs zH_81 (n + 1) b d 81 24 ml st t Q = vgi ml 3 (fun v => vc xs zH_81 n true d 81 25 ml (.int v :: st) t Q) := by
  rw [vc_q (o := (1, 0, 3, 0, [])) (by decide +kernel)]; rfl
theorem v_81_25 (xs : Option (List Int32)) (n : Nat) (b : Bool) (d : Nat) (ml : List Value) (t : T) (Q : Option Value → T → Prop) (u v : Int32) (r : List Value) : vc xs zH_81 (n + 1) b d 81 25 ml (.int v :: .int u :: r) t Q = vc xs zH_81 n true d 81 26 ml (.int (u + v) :: r) t Q := by
  rw [vc_q (o := (6, 0, 0, 0, [])) (by decide +kernel)]; rfl
theorem v_81_26 (xs : Option (List Int32)) (n : Nat) (b : Bool) (d : Nat) (ml : List Value) (t : T) (Q : Option Value → T → Prop) (v : Int32) (r : List Value) : vc xs zH_81 (n + 1) b d 81 26 ml (.int v :: r) t Q = vset ml 4 (.int v) (fun l => vc xs zH_81 n true d 81 28 l r t Q) := by
  rw [vc_q (o := (3, 0, 4, 1, [])) (by decide +kernel)]; rfl
theorem v_81_28 (xs : Option (List Int32)) (n : Nat) (b : Bool) (d : Nat) (ml : List Value) (t : T) (Q : Option Value → T → Prop) (st : List Value) : vc xs zH_81 (n + 1) b d 81 28 ml st t Q = vga ml 0 (fun v => vc xs zH_81 n true d 81 29 ml (.ref v :: st) t Q) := by
  rw [vc_q (o := (2, 0, 0, 0, [])) (by decide +kernel)]; rfl
theorem v_81_29 (xs : Option (List Int32)) (n : Nat) (b : Bool) (d : Nat) (ml : List Value) (t : T) (Q : Option Value → T → Prop) (st : List Value) : vc xs zH_81 (n + 1) b d 81 29 ml st t Q = vgi ml 4 (fun v => vc xs zH_81 n true d 81 31 ml (.int v :: st) t Q) := by
  rw [vc_q (o := (1, 0, 4, 1, [])) (by decide +kernel)]; rfl
theorem v_81_31 (xs : Option (List Int32)) (n : Nat) (b : Bool) (d : Nat) (ml : List Value) (t : T) (Q : Option Value → T → Prop) (st : List Value) : vc xs zH_81 (n + 1) b d 81 31 ml st t Q = vgi ml 1 (fun v => vc xs zH_81 n true d 81 32 ml (.int v :: st) t Q) := by
  rw [vc_q (o := (1, 0, 1, 0, [])) (by decide +kernel)]; rfl
theorem v_81_32 (xs : Option (List Int32)) (n : Nat) (b : Bool) (d : Nat) (ml : List Value) (t : T) (Q : Option Value → T → Prop) (st : List Value) : vc xs zH_81 (n + 1) b d 81 32 ml st t Q = vgi ml 2 (fun v => vc xs zH_81 n true d 81 33 ml (.int v :: st) t Q) := by
  rw [vc_q (o := (1, 0, 2, 0, [])) (by decide +kernel)]; rfl
theorem v_81_33 (xs : Option (List Int32)) (n : Nat) (b : Bool) (d : Nat) (ml : List Value) (t : T) (Q : Option Value → T → Prop) (st : List Value) : vc xs zH_81 (n + 1) b d 81 33 ml st t Q = (st.all zc1 = true ∧ vtk 4 st [] (fun as rest => rest.length ≤ 8 ∧ vrc as 12 (twc d 80 as t (fun r t' => vc xs zH_81 n true d 81 36 ml (r.toList ++ rest) t' Q)))) := by
  rw [vc_q (o := (36, 0, 80, 3, [(0, 12)])) (by decide +kernel)]; rfl
theorem v_81_36 (xs : Option (List Int32)) (n : Nat) (b : Bool) (d : Nat) (ml : List Value) (t : T) (Q : Option Value → T → Prop) (v : Int32) (r : List Value) : vc xs zH_81 (n + 1) b d 81 36 ml (.int v :: r) t Q = vset ml 5 (.int v) (fun l => vc xs zH_81 n true d 81 38 l r t Q) := by
  rw [vc_q (o := (3, 0, 5, 1, [])) (by decide +kernel)]; rfl
theorem v_81_38 (xs : Option (List Int32)) (n : Nat) (b : Bool) (d : Nat) (ml : List Value) (t : T) (Q : Option Value → T → Prop) (st : List Value) : vc xs zH_81 (n + 1) b d 81 38 ml st t Q = vga ml 0 (fun v => vc xs zH_81 n true d 81 39 ml (.ref v :: st) t Q) := by
  rw [vc_q (o := (2, 0, 0, 0, [])) (by decide +kernel)]; rfl
theorem v_81_39 (xs : Option (List Int32)) (n : Nat) (b : Bool) (d : Nat) (ml : List Value) (t : T) (Q : Option Value → T → Prop) (st : List Value) : vc xs zH_81 (n + 1) b d 81 39 ml st t Q = vgi ml 4 (fun v => vc xs zH_81 n true d 81 41 ml (.int v :: st) t Q) := by
  rw [vc_q (o := (1, 0, 4, 1, [])) (by decide +kernel)]; rfl
theorem v_81_41 (xs : Option (List Int32)) (n : Nat) (b : Bool) (d : Nat) (ml : List Value) (t : T) (Q : Option Value → T → Prop) (st : List Value) : vc xs zH_81 (n + 1) b d 81 41 ml st t Q = vgi ml 1 (fun v => vc xs zH_81 n true d 81 42 ml (.int v :: st) t Q) := by
  rw [vc_q (o := (1, 0, 1, 0, [])) (by decide +kernel)]; rfl
theorem v_81_42 (xs : Option (List Int32)) (n : Nat) (b : Bool) (d : Nat) (ml : List Value) (t : T) (Q : Option Value → T → Prop) (st : List Value) : vc xs zH_81 (n + 1) b d 81 42 ml st t Q = vgi ml 5 (fun v => vc xs zH_81 n true d 81 44 ml (.int v :: st) t Q) := by
  rw [vc_q (o := (1, 0, 5, 1, [])) (by decide +kernel)]; rfl
theorem v_81_44 (xs : Option (List Int32)) (n : Nat) (b : Bool) (d : Nat) (ml : List Value) (t : T) (Q : Option Value → T → Prop) (st : List Value) : vc xs zH_81 (n + 1) b d 81 44 ml st t Q = (st.all zc1 = true ∧ vtk 4 st [] (fun as rest => rest.length ≤ 8 ∧ vrc as 12 (twc d 79 as t (fun r t' => vc xs zH_81 n true d 81 47 ml (r.toList ++ rest) t' Q)))) := by
  rw [vc_q (o := (36, 0, 79, 3, [(0, 12)])) (by decide +kernel)]; rfl
theorem v_81_47 (xs : Option (List Int32)) (n : Nat) (b : Bool) (d : Nat) (ml : List Value) (t : T) (Q : Option Value → T → Prop) (v : Int32) (r : List Value) : vc xs zH_81 (n + 1) b d 81 47 ml (.int v :: r) t Q = vset ml 6 (.int v) (fun l => vc xs zH_81 n true d 81 49 l r t Q) := by
  rw [vc_q (o := (3, 0, 6, 1, [])) (by decide +kernel)]; rfl
theorem v_81_49 (xs : Option (List Int32)) (n : Nat) (b : Bool) (d : Nat) (ml : List Value) (t : T) (Q : Option Value → T → Prop) (st : List Value) : vc xs zH_81 (n + 1) b d 81 49 ml st t Q = vgi ml 6 (fun v => vc xs zH_81 n true d 81 51 ml (.int v :: st) t Q) := by
  rw [vc_q (o := (1, 0, 6, 1, [])) (by decide +kernel)]; rfl
theorem v_81_51 (xs : Option (List Int32)) (n : Nat) (b : Bool) (d : Nat) (ml : List Value) (t : T) (Q : Option Value → T → Prop) (u : Int32) (r : List Value) : vc xs zH_81 (n + 1) b d 81 51 ml (.int u :: r) t Q = (if u < 0 then vc xs zH_81 n true d 81 54 ml r t Q else vc xs zH_81 n true d 81 60 ml r t Q) := by
  rw [vc_q (o := (21, 0, 60, 3, [])) (by decide +kernel)]; rfl
theorem v_81_54 (xs : Option (List Int32)) (n : Nat) (b : Bool) (d : Nat) (ml : List Value) (t : T) (Q : Option Value → T → Prop) (st : List Value) : vc xs zH_81 (n + 1) b d 81 54 ml st t Q = vgi ml 3 (fun v => vset ml 3 (.int (v + 1)) (fun l => vc xs zH_81 n true d 81 57 l st t Q)) := by
  rw [vc_q (o := (5, 1, 3, 0, [])) (by decide +kernel)]; rfl
theorem v_81_57 (xs : Option (List Int32)) (n : Nat) (b : Bool) (d : Nat) (ml : List Value) (t : T) (Q : Option Value → T → Prop) (st : List Value) : vc xs zH_81 (n + 1) b d 81 57 ml st t Q = vc xs zH_81 n true d 81 254 ml st t Q := by
  rw [vc_q (o := (22, 0, 254, 0, [])) (by decide +kernel)]; rfl
theorem v_81_60 (xs : Option (List Int32)) (n : Nat) (b : Bool) (d : Nat) (ml : List Value) (t : T) (Q : Option Value → T → Prop) (st : List Value) : vc xs zH_81 (n + 1) b d 81 60 ml st t Q = vgi ml 1 (fun v => vc xs zH_81 n true d 81 61 ml (.int v :: st) t Q) := by
  rw [vc_q (o := (1, 0, 1, 0, [])) (by decide +kernel)]; rfl
theorem v_81_61 (xs : Option (List Int32)) (n : Nat) (b : Bool) (d : Nat) (ml : List Value) (t : T) (Q : Option Value → T → Prop) (st : List Value) : vc xs zH_81 (n + 1) b d 81 61 ml st t Q = vc xs zH_81 n true d 81 63 ml (.int 6 :: st) t Q := by
  rw [vc_q (o := (0, 6, 1, 0, [])) (by decide +kernel)]; rfl
theorem v_81_63 (xs : Option (List Int32)) (n : Nat) (b : Bool) (d : Nat) (ml : List Value) (t : T) (Q : Option Value → T → Prop) (u v : Int32) (r : List Value) : vc xs zH_81 (n + 1) b d 81 63 ml (.int v :: .int u :: r) t Q = (if u < v then vc xs zH_81 n true d 81 66 ml r t Q else vc xs zH_81 n true d 81 76 ml r t Q) := by
  rw [vc_q (o := (20, 0, 76, 3, [])) (by decide +kernel)]; rfl
theorem v_81_66 (xs : Option (List Int32)) (n : Nat) (b : Bool) (d : Nat) (ml : List Value) (t : T) (Q : Option Value → T → Prop) (st : List Value) : vc xs zH_81 (n + 1) b d 81 66 ml st t Q = vgi ml 1 (fun v => vc xs zH_81 n true d 81 67 ml (.int v :: st) t Q) := by
  rw [vc_q (o := (1, 0, 1, 0, [])) (by decide +kernel)]; rfl
theorem v_81_67 (xs : Option (List Int32)) (n : Nat) (b : Bool) (d : Nat) (ml : List Value) (t : T) (Q : Option Value → T → Prop) (st : List Value) : vc xs zH_81 (n + 1) b d 81 67 ml st t Q = vgi ml 6 (fun v => vc xs zH_81 n true d 81 69 ml (.int v :: st) t Q) := by
  rw [vc_q (o := (1, 0, 6, 1, [])) (by decide +kernel)]; rfl
theorem v_81_69 (xs : Option (List Int32)) (n : Nat) (b : Bool) (d : Nat) (ml : List Value) (t : T) (Q : Option Value → T → Prop) (st : List Value) : vc xs zH_81 (n + 1) b d 81 69 ml st t Q = vc xs zH_81 n true d 81 70 ml (.int 0 :: st) t Q := by
  rw [vc_q (o := (0, 0, 0, 0, [])) (by decide +kernel)]; rfl
theorem v_81_70 (xs : Option (List Int32)) (n : Nat) (b : Bool) (d : Nat) (ml : List Value) (t : T) (Q : Option Value → T → Prop) (st : List Value) : vc xs zH_81 (n + 1) b d 81 70 ml st t Q = (st.all zc1 = true ∧ vtk 3 st [] (fun as rest => rest.length ≤ 8 ∧ twc d 41 as t (fun r t' => vc xs zH_81 n true d 81 73 ml (r.toList ++ rest) t' Q))) := by
  rw [vc_q (o := (37, 0, 41, 3, [])) (by decide +kernel)]; rfl
theorem v_81_73 (xs : Option (List Int32)) (n : Nat) (b : Bool) (d : Nat) (ml : List Value) (t : T) (Q : Option Value → T → Prop) (st : List Value) : vc xs zH_81 (n + 1) b d 81 73 ml st t Q = vc xs zH_81 n true d 81 84 ml st t Q := by
  rw [vc_q (o := (22, 0, 84, 0, [])) (by decide +kernel)]; rfl
theorem v_81_76 (xs : Option (List Int32)) (n : Nat) (b : Bool) (d : Nat) (ml : List Value) (t : T) (Q : Option Value → T → Prop) (st : List Value) : vc xs zH_81 (n + 1) b d 81 76 ml st t Q = vgi ml 1 (fun v => vc xs zH_81 n true d 81 77 ml (.int v :: st) t Q) := by
  rw [vc_q (o := (1, 0, 1, 0, [])) (by decide +kernel)]; rfl
theorem v_81_77 (xs : Option (List Int32)) (n : Nat) (b : Bool) (d : Nat) (ml : List Value) (t : T) (Q : Option Value → T → Prop) (st : List Value) : vc xs zH_81 (n + 1) b d 81 77 ml st t Q = vgi ml 5 (fun v => vc xs zH_81 n true d 81 79 ml (.int v :: st) t Q) := by
  rw [vc_q (o := (1, 0, 5, 1, [])) (by decide +kernel)]; rfl
theorem v_81_79 (xs : Option (List Int32)) (n : Nat) (b : Bool) (d : Nat) (ml : List Value) (t : T) (Q : Option Value → T → Prop) (st : List Value) : vc xs zH_81 (n + 1) b d 81 79 ml st t Q = vgi ml 6 (fun v => vc xs zH_81 n true d 81 81 ml (.int v :: st) t Q) := by
  rw [vc_q (o := (1, 0, 6, 1, [])) (by decide +kernel)]; rfl
theorem v_81_81 (xs : Option (List Int32)) (n : Nat) (b : Bool) (d : Nat) (ml : List Value) (t : T) (Q : Option Value → T → Prop) (st : List Value) : vc xs zH_81 (n + 1) b d 81 81 ml st t Q = (st.all zc1 = true ∧ vtk 3 st [] (fun as rest => rest.length ≤ 8 ∧ twc d 41 as t (fun r t' => vc xs zH_81 n true d 81 84 ml (r.toList ++ rest) t' Q))) := by
  rw [vc_q (o := (37, 0, 41, 3, [])) (by decide +kernel)]; rfl
theorem v_81_84 (xs : Option (List Int32)) (n : Nat) (d : Nat) (ml : List Value) (t : T) (Q : Option Value → T → Prop) (v : Int32) (r : List Value) : vc xs zH_81 (n + 1) false d 81 84 ml (.int v :: r) t Q = vset ml 7 (.int v) (fun l => vc xs zH_81 n true d 81 86 l r t Q) := by
  rw [vc_q (o := (3, 0, 7, 1, [])) (by decide +kernel)]; rfl
theorem h_81_84 (xs : Option (List Int32)) (n d : Nat) (ml st : List Value) (t : T) (Q : Option Value → T → Prop) : vc xs zH_81 (n + 1) true d 81 84 ml st t Q = twp xs d 81 84 ml st t Q := id rfl
theorem v_81_86 (xs : Option (List Int32)) (n : Nat) (b : Bool) (d : Nat) (ml : List Value) (t : T) (Q : Option Value → T → Prop) (st : List Value) : vc xs zH_81 (n + 1) b d 81 86 ml st t Q = vga ml 0 (fun v => vc xs zH_81 n true d 81 87 ml (.ref v :: st) t Q) := by
  rw [vc_q (o := (2, 0, 0, 0, [])) (by decide +kernel)]; rfl
theorem v_81_87 (xs : Option (List Int32)) (n : Nat) (b : Bool) (d : Nat) (ml : List Value) (t : T) (Q : Option Value → T → Prop) (st : List Value) : vc xs zH_81 (n + 1) b d 81 87 ml st t Q = vgi ml 4 (fun v => vc xs zH_81 n true d 81 89 ml (.int v :: st) t Q) := by
  rw [vc_q (o := (1, 0, 4, 1, [])) (by decide +kernel)]; rfl
theorem v_81_89 (xs : Option (List Int32)) (n : Nat) (b : Bool) (d : Nat) (ml : List Value) (t : T) (Q : Option Value → T → Prop) (st : List Value) : vc xs zH_81 (n + 1) b d 81 89 ml st t Q = vc xs zH_81 n true d 81 92 ml (.int 140 :: st) t Q := by
  rw [vc_q (o := (0, 140, 2, 0, [])) (by decide +kernel)]; rfl
theorem v_81_92 (xs : Option (List Int32)) (n : Nat) (b : Bool) (d : Nat) (ml : List Value) (t : T) (Q : Option Value → T → Prop) (st : List Value) : vc xs zH_81 (n + 1) b d 81 92 ml st t Q = vga ml 0 (fun v => vc xs zH_81 n true d 81 93 ml (.ref v :: st) t Q) := by
  rw [vc_q (o := (2, 0, 0, 0, [])) (by decide +kernel)]; rfl
theorem v_81_93 (xs : Option (List Int32)) (n : Nat) (b : Bool) (d : Nat) (ml : List Value) (t : T) (Q : Option Value → T → Prop) (u : Nat) (r : List Value) : vc xs zH_81 (n + 1) b d 81 93 ml (.ref u :: r) t Q = (vtag u = 12 ∧ vc xs zH_81 n true d 81 96 ml (.int (t.1 u 26) :: r) t Q) := by
  rw [vc_q (o := (24, 0, 12, 26, [])) (by decide +kernel)]; rfl
theorem v_81_96 (xs : Option (List Int32)) (n : Nat) (b : Bool) (d : Nat) (ml : List Value) (t : T) (Q : Option Value → T → Prop) (u v : Int32) (r : List Value) : vc xs zH_81 (n + 1) b d 81 96 ml (.int v :: .int u :: r) t Q = vc xs zH_81 n true d 81 97 ml (.int (u + v) :: r) t Q := by
  rw [vc_q (o := (6, 0, 0, 0, [])) (by decide +kernel)]; rfl
theorem v_81_97 (xs : Option (List Int32)) (n : Nat) (b : Bool) (d : Nat) (ml : List Value) (t : T) (Q : Option Value → T → Prop) (st : List Value) : vc xs zH_81 (n + 1) b d 81 97 ml st t Q = (st.all zc1 = true ∧ vtk 3 st [] (fun as rest => rest.length ≤ 8 ∧ vrc as 12 (twc d 44 as t (fun r t' => vc xs zH_81 n true d 81 100 ml (r.toList ++ rest) t' Q)))) := by
  rw [vc_q (o := (36, 0, 44, 2, [(0, 12)])) (by decide +kernel)]; rfl
theorem v_81_100 (xs : Option (List Int32)) (n : Nat) (b : Bool) (d : Nat) (ml : List Value) (t : T) (Q : Option Value → T → Prop) (st : List Value) : vc xs zH_81 (n + 1) b d 81 100 ml st t Q = vga ml 0 (fun v => vc xs zH_81 n true d 81 101 ml (.ref v :: st) t Q) := by
  rw [vc_q (o := (2, 0, 0, 0, [])) (by decide +kernel)]; rfl
theorem v_81_101 (xs : Option (List Int32)) (n : Nat) (b : Bool) (d : Nat) (ml : List Value) (t : T) (Q : Option Value → T → Prop) (st : List Value) : vc xs zH_81 (n + 1) b d 81 101 ml st t Q = vc xs zH_81 n true d 81 104 ml (.int 140 :: st) t Q := by
  rw [vc_q (o := (0, 140, 2, 0, [])) (by decide +kernel)]; rfl
theorem v_81_104 (xs : Option (List Int32)) (n : Nat) (b : Bool) (d : Nat) (ml : List Value) (t : T) (Q : Option Value → T → Prop) (st : List Value) : vc xs zH_81 (n + 1) b d 81 104 ml st t Q = vga ml 0 (fun v => vc xs zH_81 n true d 81 105 ml (.ref v :: st) t Q) := by
  rw [vc_q (o := (2, 0, 0, 0, [])) (by decide +kernel)]; rfl
theorem v_81_105 (xs : Option (List Int32)) (n : Nat) (b : Bool) (d : Nat) (ml : List Value) (t : T) (Q : Option Value → T → Prop) (u : Nat) (r : List Value) : vc xs zH_81 (n + 1) b d 81 105 ml (.ref u :: r) t Q = (vtag u = 12 ∧ vc xs zH_81 n true d 81 108 ml (.int (t.1 u 26) :: r) t Q) := by
  rw [vc_q (o := (24, 0, 12, 26, [])) (by decide +kernel)]; rfl
theorem v_81_108 (xs : Option (List Int32)) (n : Nat) (b : Bool) (d : Nat) (ml : List Value) (t : T) (Q : Option Value → T → Prop) (u v : Int32) (r : List Value) : vc xs zH_81 (n + 1) b d 81 108 ml (.int v :: .int u :: r) t Q = vc xs zH_81 n true d 81 109 ml (.int (u + v) :: r) t Q := by
  rw [vc_q (o := (6, 0, 0, 0, [])) (by decide +kernel)]; rfl
theorem v_81_109 (xs : Option (List Int32)) (n : Nat) (b : Bool) (d : Nat) (ml : List Value) (t : T) (Q : Option Value → T → Prop) (st : List Value) : vc xs zH_81 (n + 1) b d 81 109 ml st t Q = vgi ml 7 (fun v => vc xs zH_81 n true d 81 111 ml (.int v :: st) t Q) := by
  rw [vc_q (o := (1, 0, 7, 1, [])) (by decide +kernel)]; rfl
theorem v_81_111 (xs : Option (List Int32)) (n : Nat) (b : Bool) (d : Nat) (ml : List Value) (t : T) (Q : Option Value → T → Prop) (st : List Value) : vc xs zH_81 (n + 1) b d 81 111 ml st t Q = vc xs zH_81 n true d 81 112 ml (.int 1 :: st) t Q := by
  rw [vc_q (o := (0, 1, 0, 0, [])) (by decide +kernel)]; rfl
theorem v_81_112 (xs : Option (List Int32)) (n : Nat) (b : Bool) (d : Nat) (ml : List Value) (t : T) (Q : Option Value → T → Prop) (st : List Value) : vc xs zH_81 (n + 1) b d 81 112 ml st t Q = (st.all zc1 = true ∧ vtk 4 st [] (fun as rest => rest.length ≤ 8 ∧ vrc as 12 (twc d 39 as t (fun r t' => vc xs zH_81 n true d 81 115 ml (r.toList ++ rest) t' Q)))) := by
  rw [vc_q (o := (36, 0, 39, 3, [(0, 12)])) (by decide +kernel)]; rfl
theorem v_81_115 (xs : Option (List Int32)) (n : Nat) (b : Bool) (d : Nat) (ml : List Value) (t : T) (Q : Option Value → T → Prop) (st : List Value) : vc xs zH_81 (n + 1) b d 81 115 ml st t Q = vga ml 0 (fun v => vc xs zH_81 n true d 81 116 ml (.ref v :: st) t Q) := by
  rw [vc_q (o := (2, 0, 0, 0, [])) (by decide +kernel)]; rfl
theorem v_81_116_int (xs : Option (List Int32)) (n : Nat) (b : Bool) (d : Nat) (ml : List Value) (t : T) (Q : Option Value → T → Prop) (v : Int32) (r : List Value) : vc xs zH_81 (n + 1) b d 81 116 ml (.int v :: r) t Q = vc xs zH_81 n true d 81 117 ml (.int v :: .int v :: r) t Q := by
  rw [vc_q (o := (17, 0, 0, 0, [])) (by decide +kernel)]; rfl
theorem v_81_116_ref (xs : Option (List Int32)) (n : Nat) (b : Bool) (d : Nat) (ml : List Value) (t : T) (Q : Option Value → T → Prop) (v : Nat) (r : List Value) : vc xs zH_81 (n + 1) b d 81 116 ml (.ref v :: r) t Q = vc xs zH_81 n true d 81 117 ml (.ref v :: .ref v :: r) t Q := by
  rw [vc_q (o := (17, 0, 0, 0, [])) (by decide +kernel)]; rfl
theorem v_81_117 (xs : Option (List Int32)) (n : Nat) (b : Bool) (d : Nat) (ml : List Value) (t : T) (Q : Option Value → T → Prop) (u : Nat) (r : List Value) : vc xs zH_81 (n + 1) b d 81 117 ml (.ref u :: r) t Q = (vtag u = 12 ∧ vc xs zH_81 n true d 81 120 ml (.int (t.1 u 26) :: r) t Q) := by
  rw [vc_q (o := (24, 0, 12, 26, [])) (by decide +kernel)]; rfl
theorem v_81_120 (xs : Option (List Int32)) (n : Nat) (b : Bool) (d : Nat) (ml : List Value) (t : T) (Q : Option Value → T → Prop) (st : List Value) : vc xs zH_81 (n + 1) b d 81 120 ml st t Q = vc xs zH_81 n true d 81 121 ml (.int 1 :: st) t Q := by
  rw [vc_q (o := (0, 1, 0, 0, [])) (by decide +kernel)]; rfl
theorem v_81_121 (xs : Option (List Int32)) (n : Nat) (b : Bool) (d : Nat) (ml : List Value) (t : T) (Q : Option Value → T → Prop) (u v : Int32) (r : List Value) : vc xs zH_81 (n + 1) b d 81 121 ml (.int v :: .int u :: r) t Q = vc xs zH_81 n true d 81 122 ml (.int (u + v) :: r) t Q := by
  rw [vc_q (o := (6, 0, 0, 0, [])) (by decide +kernel)]; rfl
theorem v_81_122 (xs : Option (List Int32)) (n : Nat) (b : Bool) (d : Nat) (ml : List Value) (t : T) (Q : Option Value → T → Prop) (v : Int32) (u : Nat) (r : List Value) : vc xs zH_81 (n + 1) b d 81 122 ml (.int v :: .ref u :: r) t Q = (vtag u = 12 ∧ vc xs zH_81 n true d 81 125 ml r (tsi t u 26 v) Q) := by
  rw [vc_q (o := (26, 0, 12, 26, [])) (by decide +kernel)]; rfl
theorem v_81_125 (xs : Option (List Int32)) (n : Nat) (b : Bool) (d : Nat) (ml : List Value) (t : T) (Q : Option Value → T → Prop) (st : List Value) : vc xs zH_81 (n + 1) b d 81 125 ml st t Q = vga ml 0 (fun v => vc xs zH_81 n true d 81 126 ml (.ref v :: st) t Q) := by
  rw [vc_q (o := (2, 0, 0, 0, [])) (by decide +kernel)]; rfl
theorem v_81_126 (xs : Option (List Int32)) (n : Nat) (b : Bool) (d : Nat) (ml : List Value) (t : T) (Q : Option Value → T → Prop) (st : List Value) : vc xs zH_81 (n + 1) b d 81 126 ml st t Q = vgi ml 4 (fun v => vc xs zH_81 n true d 81 128 ml (.int v :: st) t Q) := by
  rw [vc_q (o := (1, 0, 4, 1, [])) (by decide +kernel)]; rfl
theorem v_81_128 (xs : Option (List Int32)) (n : Nat) (b : Bool) (d : Nat) (ml : List Value) (t : T) (Q : Option Value → T → Prop) (st : List Value) : vc xs zH_81 (n + 1) b d 81 128 ml st t Q = vgi ml 6 (fun v => vc xs zH_81 n true d 81 130 ml (.int v :: st) t Q) := by
  rw [vc_q (o := (1, 0, 6, 1, [])) (by decide +kernel)]; rfl
theorem v_81_130 (xs : Option (List Int32)) (n : Nat) (b : Bool) (d : Nat) (ml : List Value) (t : T) (Q : Option Value → T → Prop) (st : List Value) : vc xs zH_81 (n + 1) b d 81 130 ml st t Q = (st.all zc1 = true ∧ vtk 3 st [] (fun as rest => rest.length ≤ 8 ∧ vrc as 12 (twc d 42 as t (fun r t' => vc xs zH_81 n true d 81 133 ml (r.toList ++ rest) t' Q)))) := by
  rw [vc_q (o := (36, 0, 42, 2, [(0, 12)])) (by decide +kernel)]; rfl
theorem v_81_133 (xs : Option (List Int32)) (n : Nat) (b : Bool) (d : Nat) (ml : List Value) (t : T) (Q : Option Value → T → Prop) (u : Int32) (r : List Value) : vc xs zH_81 (n + 1) b d 81 133 ml (.int u :: r) t Q = (if u = 0 then vc xs zH_81 n true d 81 234 ml r t Q else vc xs zH_81 n true d 81 136 ml r t Q) := by
  rw [vc_q (o := (21, 0, 234, 0, [])) (by decide +kernel)]; rfl
theorem v_81_136 (xs : Option (List Int32)) (n : Nat) (b : Bool) (d : Nat) (ml : List Value) (t : T) (Q : Option Value → T → Prop) (st : List Value) : vc xs zH_81 (n + 1) b d 81 136 ml st t Q = vgi ml 6 (fun v => vc xs zH_81 n true d 81 138 ml (.int v :: st) t Q) := by
  rw [vc_q (o := (1, 0, 6, 1, [])) (by decide +kernel)]; rfl
theorem v_81_138 (xs : Option (List Int32)) (n : Nat) (b : Bool) (d : Nat) (ml : List Value) (t : T) (Q : Option Value → T → Prop) (st : List Value) : vc xs zH_81 (n + 1) b d 81 138 ml st t Q = vgi ml 5 (fun v => vc xs zH_81 n true d 81 140 ml (.int v :: st) t Q) := by
  rw [vc_q (o := (1, 0, 5, 1, [])) (by decide +kernel)]; rfl
theorem v_81_140 (xs : Option (List Int32)) (n : Nat) (b : Bool) (d : Nat) (ml : List Value) (t : T) (Q : Option Value → T → Prop) (u v : Int32) (r : List Value) : vc xs zH_81 (n + 1) b d 81 140 ml (.int v :: .int u :: r) t Q = (if u = v then vc xs zH_81 n true d 81 234 ml r t Q else vc xs zH_81 n true d 81 143 ml r t Q) := by
  rw [vc_q (o := (20, 0, 234, 0, [])) (by decide +kernel)]; rfl
theorem v_81_143 (xs : Option (List Int32)) (n : Nat) (b : Bool) (d : Nat) (ml : List Value) (t : T) (Q : Option Value → T → Prop) (st : List Value) : vc xs zH_81 (n + 1) b d 81 143 ml st t Q = vga ml 0 (fun v => vc xs zH_81 n true d 81 144 ml (.ref v :: st) t Q) := by
  rw [vc_q (o := (2, 0, 0, 0, [])) (by decide +kernel)]; rfl
theorem v_81_144 (xs : Option (List Int32)) (n : Nat) (b : Bool) (d : Nat) (ml : List Value) (t : T) (Q : Option Value → T → Prop) (st : List Value) : vc xs zH_81 (n + 1) b d 81 144 ml st t Q = vgi ml 4 (fun v => vc xs zH_81 n true d 81 146 ml (.int v :: st) t Q) := by
  rw [vc_q (o := (1, 0, 4, 1, [])) (by decide +kernel)]; rfl
theorem v_81_146 (xs : Option (List Int32)) (n : Nat) (b : Bool) (d : Nat) (ml : List Value) (t : T) (Q : Option Value → T → Prop) (st : List Value) : vc xs zH_81 (n + 1) b d 81 146 ml st t Q = vc xs zH_81 n true d 81 149 ml (.int 140 :: st) t Q := by
  rw [vc_q (o := (0, 140, 2, 0, [])) (by decide +kernel)]; rfl
theorem v_81_149 (xs : Option (List Int32)) (n : Nat) (b : Bool) (d : Nat) (ml : List Value) (t : T) (Q : Option Value → T → Prop) (st : List Value) : vc xs zH_81 (n + 1) b d 81 149 ml st t Q = vga ml 0 (fun v => vc xs zH_81 n true d 81 150 ml (.ref v :: st) t Q) := by
  rw [vc_q (o := (2, 0, 0, 0, [])) (by decide +kernel)]; rfl
theorem v_81_150 (xs : Option (List Int32)) (n : Nat) (b : Bool) (d : Nat) (ml : List Value) (t : T) (Q : Option Value → T → Prop) (u : Nat) (r : List Value) : vc xs zH_81 (n + 1) b d 81 150 ml (.ref u :: r) t Q = (vtag u = 12 ∧ vc xs zH_81 n true d 81 153 ml (.int (t.1 u 26) :: r) t Q) := by
  rw [vc_q (o := (24, 0, 12, 26, [])) (by decide +kernel)]; rfl
theorem v_81_153 (xs : Option (List Int32)) (n : Nat) (b : Bool) (d : Nat) (ml : List Value) (t : T) (Q : Option Value → T → Prop) (u v : Int32) (r : List Value) : vc xs zH_81 (n + 1) b d 81 153 ml (.int v :: .int u :: r) t Q = vc xs zH_81 n true d 81 154 ml (.int (u + v) :: r) t Q := by
  rw [vc_q (o := (6, 0, 0, 0, [])) (by decide +kernel)]; rfl
theorem v_81_154 (xs : Option (List Int32)) (n : Nat) (b : Bool) (d : Nat) (ml : List Value) (t : T) (Q : Option Value → T → Prop) (st : List Value) : vc xs zH_81 (n + 1) b d 81 154 ml st t Q = vgi ml 6 (fun v => vc xs zH_81 n true d 81 156 ml (.int v :: st) t Q) := by
  rw [vc_q (o := (1, 0, 6, 1, [])) (by decide +kernel)]; rfl
theorem v_81_156 (xs : Option (List Int32)) (n : Nat) (b : Bool) (d : Nat) (ml : List Value) (t : T) (Q : Option Value → T → Prop) (st : List Value) : vc xs zH_81 (n + 1) b d 81 156 ml st t Q = (st.all zc1 = true ∧ vtk 4 st [] (fun as rest => rest.length ≤ 8 ∧ vrc as 12 (twc d 78 as t (fun r t' => vc xs zH_81 n true d 81 159 ml (r.toList ++ rest) t' Q)))) := by
  rw [vc_q (o := (36, 0, 78, 3, [(0, 12)])) (by decide +kernel)]; rfl
theorem v_81_159 (xs : Option (List Int32)) (n : Nat) (b : Bool) (d : Nat) (ml : List Value) (t : T) (Q : Option Value → T → Prop) (u : Int32) (r : List Value) : vc xs zH_81 (n + 1) b d 81 159 ml (.int u :: r) t Q = (if u = 0 then vc xs zH_81 n true d 81 162 ml r t Q else vc xs zH_81 n true d 81 164 ml r t Q) := by
  rw [vc_q (o := (21, 0, 164, 1, [])) (by decide +kernel)]; rfl
theorem v_81_162 (xs : Option (List Int32)) (n : Nat) (b : Bool) (d : Nat) (ml : List Value) (t : T) (Q : Option Value → T → Prop) (st : List Value) : vc xs zH_81 (n + 1) b d 81 162 ml st t Q = vc xs zH_81 n true d 81 163 ml (.int 0 :: st) t Q := by
  rw [vc_q (o := (0, 0, 0, 0, [])) (by decide +kernel)]; rfl
theorem v_81_163 (xs : Option (List Int32)) (n : Nat) (b : Bool) (d : Nat) (ml : List Value) (t : T) (Q : Option Value → T → Prop) (v : Int32) : vc xs zH_81 (n + 1) b d 81 163 ml [.int v] t Q = ((v = 0 ∨ v = 1) ∧ Q (some (.int v)) t) := by
  rw [vc_q (o := (41, 0, 0, 0, [])) (by decide +kernel)]; rfl
theorem v_81_164 (xs : Option (List Int32)) (n : Nat) (b : Bool) (d : Nat) (ml : List Value) (t : T) (Q : Option Value → T → Prop) (st : List Value) : vc xs zH_81 (n + 1) b d 81 164 ml st t Q = vga ml 0 (fun v => vc xs zH_81 n true d 81 165 ml (.ref v :: st) t Q) := by
  rw [vc_q (o := (2, 0, 0, 0, [])) (by decide +kernel)]; rfl
theorem v_81_165 (xs : Option (List Int32)) (n : Nat) (b : Bool) (d : Nat) (ml : List Value) (t : T) (Q : Option Value → T → Prop) (st : List Value) : vc xs zH_81 (n + 1) b d 81 165 ml st t Q = vgi ml 4 (fun v => vc xs zH_81 n true d 81 167 ml (.int v :: st) t Q) := by
  rw [vc_q (o := (1, 0, 4, 1, [])) (by decide +kernel)]; rfl
theorem v_81_167 (xs : Option (List Int32)) (n : Nat) (b : Bool) (d : Nat) (ml : List Value) (t : T) (Q : Option Value → T → Prop) (st : List Value) : vc xs zH_81 (n + 1) b d 81 167 ml st t Q = (st.all zc1 = true ∧ vtk 2 st [] (fun as rest => rest.length ≤ 8 ∧ vrc as 12 (twc d 40 as t (fun r t' => vc xs zH_81 n true d 81 170 ml (r.toList ++ rest) t' Q)))) := by
  rw [vc_q (o := (36, 0, 40, 1, [(0, 12)])) (by decide +kernel)]; rfl
theorem v_81_170 (xs : Option (List Int32)) (n : Nat) (b : Bool) (d : Nat) (ml : List Value) (t : T) (Q : Option Value → T → Prop) (v : Int32) (r : List Value) : vc xs zH_81 (n + 1) b d 81 170 ml (.int v :: r) t Q = vset ml 8 (.int v) (fun l => vc xs zH_81 n true d 81 172 l r t Q) := by
  rw [vc_q (o := (3, 0, 8, 1, [])) (by decide +kernel)]; rfl
theorem v_81_172 (xs : Option (List Int32)) (n : Nat) (b : Bool) (d : Nat) (ml : List Value) (t : T) (Q : Option Value → T → Prop) (st : List Value) : vc xs zH_81 (n + 1) b d 81 172 ml st t Q = vga ml 0 (fun v => vc xs zH_81 n true d 81 173 ml (.ref v :: st) t Q) := by
  rw [vc_q (o := (2, 0, 0, 0, [])) (by decide +kernel)]; rfl
theorem v_81_173 (xs : Option (List Int32)) (n : Nat) (b : Bool) (d : Nat) (ml : List Value) (t : T) (Q : Option Value → T → Prop) (st : List Value) : vc xs zH_81 (n + 1) b d 81 173 ml st t Q = vc xs zH_81 n true d 81 176 ml (.int 140 :: st) t Q := by
  rw [vc_q (o := (0, 140, 2, 0, [])) (by decide +kernel)]; rfl
theorem v_81_176 (xs : Option (List Int32)) (n : Nat) (b : Bool) (d : Nat) (ml : List Value) (t : T) (Q : Option Value → T → Prop) (st : List Value) : vc xs zH_81 (n + 1) b d 81 176 ml st t Q = vga ml 0 (fun v => vc xs zH_81 n true d 81 177 ml (.ref v :: st) t Q) := by
  rw [vc_q (o := (2, 0, 0, 0, [])) (by decide +kernel)]; rfl
theorem v_81_177 (xs : Option (List Int32)) (n : Nat) (b : Bool) (d : Nat) (ml : List Value) (t : T) (Q : Option Value → T → Prop) (u : Nat) (r : List Value) : vc xs zH_81 (n + 1) b d 81 177 ml (.ref u :: r) t Q = (vtag u = 12 ∧ vc xs zH_81 n true d 81 180 ml (.int (t.1 u 26) :: r) t Q) := by
  rw [vc_q (o := (24, 0, 12, 26, [])) (by decide +kernel)]; rfl
theorem v_81_180 (xs : Option (List Int32)) (n : Nat) (b : Bool) (d : Nat) (ml : List Value) (t : T) (Q : Option Value → T → Prop) (u v : Int32) (r : List Value) : vc xs zH_81 (n + 1) b d 81 180 ml (.int v :: .int u :: r) t Q = vc xs zH_81 n true d 81 181 ml (.int (u + v) :: r) t Q := by
  rw [vc_q (o := (6, 0, 0, 0, [])) (by decide +kernel)]; rfl
theorem v_81_181 (xs : Option (List Int32)) (n : Nat) (b : Bool) (d : Nat) (ml : List Value) (t : T) (Q : Option Value → T → Prop) (st : List Value) : vc xs zH_81 (n + 1) b d 81 181 ml st t Q = vgi ml 7 (fun v => vc xs zH_81 n true d 81 183 ml (.int v :: st) t Q) := by
  rw [vc_q (o := (1, 0, 7, 1, [])) (by decide +kernel)]; rfl
theorem v_81_183 (xs : Option (List Int32)) (n : Nat) (b : Bool) (d : Nat) (ml : List Value) (t : T) (Q : Option Value → T → Prop) (st : List Value) : vc xs zH_81 (n + 1) b d 81 183 ml st t Q = vc xs zH_81 n true d 81 184 ml (.int 0 :: st) t Q := by
  rw [vc_q (o := (0, 0, 0, 0, [])) (by decide +kernel)]; rfl
theorem v_81_184 (xs : Option (List Int32)) (n : Nat) (b : Bool) (d : Nat) (ml : List Value) (t : T) (Q : Option Value → T → Prop) (st : List Value) : vc xs zH_81 (n + 1) b d 81 184 ml st t Q = (st.all zc1 = true ∧ vtk 4 st [] (fun as rest => rest.length ≤ 8 ∧ vrc as 12 (twc d 39 as t (fun r t' => vc xs zH_81 n true d 81 187 ml (r.toList ++ rest) t' Q)))) := by
  rw [vc_q (o := (36, 0, 39, 3, [(0, 12)])) (by decide +kernel)]; rfl
theorem v_81_187 (xs : Option (List Int32)) (n : Nat) (b : Bool) (d : Nat) (ml : List Value) (t : T) (Q : Option Value → T → Prop) (st : List Value) : vc xs zH_81 (n + 1) b d 81 187 ml st t Q = vga ml 0 (fun v => vc xs zH_81 n true d 81 188 ml (.ref v :: st) t Q) := by
  rw [vc_q (o := (2, 0, 0, 0, [])) (by decide +kernel)]; rfl
theorem v_81_188 (xs : Option (List Int32)) (n : Nat) (b : Bool) (d : Nat) (ml : List Value) (t : T) (Q : Option Value → T → Prop) (st : List Value) : vc xs zH_81 (n + 1) b d 81 188 ml st t Q = vc xs zH_81 n true d 81 191 ml (.int 140 :: st) t Q := by
  rw [vc_q (o := (0, 140, 2, 0, [])) (by decide +kernel)]; rfl
theorem v_81_191 (xs : Option (List Int32)) (n : Nat) (b : Bool) (d : Nat) (ml : List Value) (t : T) (Q : Option Value → T → Prop) (st : List Value) : vc xs zH_81 (n + 1) b d 81 191 ml st t Q = vga ml 0 (fun v => vc xs zH_81 n true d 81 192 ml (.ref v :: st) t Q) := by
  rw [vc_q (o := (2, 0, 0, 0, [])) (by decide +kernel)]; rfl
theorem v_81_192 (xs : Option (List Int32)) (n : Nat) (b : Bool) (d : Nat) (ml : List Value) (t : T) (Q : Option Value → T → Prop) (u : Nat) (r : List Value) : vc xs zH_81 (n + 1) b d 81 192 ml (.ref u :: r) t Q = (vtag u = 12 ∧ vc xs zH_81 n true d 81 195 ml (.int (t.1 u 26) :: r) t Q) := by
  rw [vc_q (o := (24, 0, 12, 26, [])) (by decide +kernel)]; rfl
theorem v_81_195 (xs : Option (List Int32)) (n : Nat) (b : Bool) (d : Nat) (ml : List Value) (t : T) (Q : Option Value → T → Prop) (u v : Int32) (r : List Value) : vc xs zH_81 (n + 1) b d 81 195 ml (.int v :: .int u :: r) t Q = vc xs zH_81 n true d 81 196 ml (.int (u + v) :: r) t Q := by
  rw [vc_q (o := (6, 0, 0, 0, [])) (by decide +kernel)]; rfl
theorem v_81_196 (xs : Option (List Int32)) (n : Nat) (b : Bool) (d : Nat) (ml : List Value) (t : T) (Q : Option Value → T → Prop) (st : List Value) : vc xs zH_81 (n + 1) b d 81 196 ml st t Q = vgi ml 1 (fun v => vc xs zH_81 n true d 81 197 ml (.int v :: st) t Q) := by
  rw [vc_q (o := (1, 0, 1, 0, [])) (by decide +kernel)]; rfl
theorem v_81_197 (xs : Option (List Int32)) (n : Nat) (b : Bool) (d : Nat) (ml : List Value) (t : T) (Q : Option Value → T → Prop) (st : List Value) : vc xs zH_81 (n + 1) b d 81 197 ml st t Q = vc xs zH_81 n true d 81 199 ml (.int 6 :: st) t Q := by
  rw [vc_q (o := (0, 6, 1, 0, [])) (by decide +kernel)]; rfl
theorem v_81_199 (xs : Option (List Int32)) (n : Nat) (b : Bool) (d : Nat) (ml : List Value) (t : T) (Q : Option Value → T → Prop) (u v : Int32) (r : List Value) : vc xs zH_81 (n + 1) b d 81 199 ml (.int v :: .int u :: r) t Q = (if u < v then vc xs zH_81 n true d 81 202 ml r t Q else vc xs zH_81 n true d 81 212 ml r t Q) := by
  rw [vc_q (o := (20, 0, 212, 3, [])) (by decide +kernel)]; rfl
theorem v_81_202 (xs : Option (List Int32)) (n : Nat) (b : Bool) (d : Nat) (ml : List Value) (t : T) (Q : Option Value → T → Prop) (st : List Value) : vc xs zH_81 (n + 1) b d 81 202 ml st t Q = vgi ml 1 (fun v => vc xs zH_81 n true d 81 203 ml (.int v :: st) t Q) := by
  rw [vc_q (o := (1, 0, 1, 0, [])) (by decide +kernel)]; rfl
theorem v_81_203 (xs : Option (List Int32)) (n : Nat) (b : Bool) (d : Nat) (ml : List Value) (t : T) (Q : Option Value → T → Prop) (st : List Value) : vc xs zH_81 (n + 1) b d 81 203 ml st t Q = vgi ml 8 (fun v => vc xs zH_81 n true d 81 205 ml (.int v :: st) t Q) := by
  rw [vc_q (o := (1, 0, 8, 1, [])) (by decide +kernel)]; rfl
theorem v_81_205 (xs : Option (List Int32)) (n : Nat) (b : Bool) (d : Nat) (ml : List Value) (t : T) (Q : Option Value → T → Prop) (st : List Value) : vc xs zH_81 (n + 1) b d 81 205 ml st t Q = vc xs zH_81 n true d 81 206 ml (.int 0 :: st) t Q := by
  rw [vc_q (o := (0, 0, 0, 0, [])) (by decide +kernel)]; rfl
theorem v_81_206 (xs : Option (List Int32)) (n : Nat) (b : Bool) (d : Nat) (ml : List Value) (t : T) (Q : Option Value → T → Prop) (st : List Value) : vc xs zH_81 (n + 1) b d 81 206 ml st t Q = (st.all zc1 = true ∧ vtk 3 st [] (fun as rest => rest.length ≤ 8 ∧ twc d 41 as t (fun r t' => vc xs zH_81 n true d 81 209 ml (r.toList ++ rest) t' Q))) := by
  rw [vc_q (o := (37, 0, 41, 3, [])) (by decide +kernel)]; rfl
theorem v_81_209 (xs : Option (List Int32)) (n : Nat) (b : Bool) (d : Nat) (ml : List Value) (t : T) (Q : Option Value → T → Prop) (st : List Value) : vc xs zH_81 (n + 1) b d 81 209 ml st t Q = vc xs zH_81 n true d 81 220 ml st t Q := by
  rw [vc_q (o := (22, 0, 220, 0, [])) (by decide +kernel)]; rfl
theorem v_81_212 (xs : Option (List Int32)) (n : Nat) (b : Bool) (d : Nat) (ml : List Value) (t : T) (Q : Option Value → T → Prop) (st : List Value) : vc xs zH_81 (n + 1) b d 81 212 ml st t Q = vgi ml 1 (fun v => vc xs zH_81 n true d 81 213 ml (.int v :: st) t Q) := by
  rw [vc_q (o := (1, 0, 1, 0, [])) (by decide +kernel)]; rfl
theorem v_81_213 (xs : Option (List Int32)) (n : Nat) (b : Bool) (d : Nat) (ml : List Value) (t : T) (Q : Option Value → T → Prop) (st : List Value) : vc xs zH_81 (n + 1) b d 81 213 ml st t Q = vgi ml 5 (fun v => vc xs zH_81 n true d 81 215 ml (.int v :: st) t Q) := by
  rw [vc_q (o := (1, 0, 5, 1, [])) (by decide +kernel)]; rfl
theorem v_81_215 (xs : Option (List Int32)) (n : Nat) (b : Bool) (d : Nat) (ml : List Value) (t : T) (Q : Option Value → T → Prop) (st : List Value) : vc xs zH_81 (n + 1) b d 81 215 ml st t Q = vgi ml 8 (fun v => vc xs zH_81 n true d 81 217 ml (.int v :: st) t Q) := by
  rw [vc_q (o := (1, 0, 8, 1, [])) (by decide +kernel)]; rfl
theorem v_81_217 (xs : Option (List Int32)) (n : Nat) (b : Bool) (d : Nat) (ml : List Value) (t : T) (Q : Option Value → T → Prop) (st : List Value) : vc xs zH_81 (n + 1) b d 81 217 ml st t Q = (st.all zc1 = true ∧ vtk 3 st [] (fun as rest => rest.length ≤ 8 ∧ twc d 41 as t (fun r t' => vc xs zH_81 n true d 81 220 ml (r.toList ++ rest) t' Q))) := by
  rw [vc_q (o := (37, 0, 41, 3, [])) (by decide +kernel)]; rfl
theorem v_81_220 (xs : Option (List Int32)) (n : Nat) (b : Bool) (d : Nat) (ml : List Value) (t : T) (Q : Option Value → T → Prop) (st : List Value) : vc xs zH_81 (n + 1) b d 81 220 ml st t Q = vc xs zH_81 n true d 81 221 ml (.int 1 :: st) t Q := by
  rw [vc_q (o := (0, 1, 0, 0, [])) (by decide +kernel)]; rfl
theorem v_81_221 (xs : Option (List Int32)) (n : Nat) (b : Bool) (d : Nat) (ml : List Value) (t : T) (Q : Option Value → T → Prop) (st : List Value) : vc xs zH_81 (n + 1) b d 81 221 ml st t Q = (st.all zc1 = true ∧ vtk 4 st [] (fun as rest => rest.length ≤ 8 ∧ vrc as 12 (twc d 39 as t (fun r t' => vc xs zH_81 n true d 81 224 ml (r.toList ++ rest) t' Q)))) := by
  rw [vc_q (o := (36, 0, 39, 3, [(0, 12)])) (by decide +kernel)]; rfl
theorem v_81_224 (xs : Option (List Int32)) (n : Nat) (b : Bool) (d : Nat) (ml : List Value) (t : T) (Q : Option Value → T → Prop) (st : List Value) : vc xs zH_81 (n + 1) b d 81 224 ml st t Q = vga ml 0 (fun v => vc xs zH_81 n true d 81 225 ml (.ref v :: st) t Q) := by
  rw [vc_q (o := (2, 0, 0, 0, [])) (by decide +kernel)]; rfl
theorem v_81_225_int (xs : Option (List Int32)) (n : Nat) (b : Bool) (d : Nat) (ml : List Value) (t : T) (Q : Option Value → T → Prop) (v : Int32) (r : List Value) : vc xs zH_81 (n + 1) b d 81 225 ml (.int v :: r) t Q = vc xs zH_81 n true d 81 226 ml (.int v :: .int v :: r) t Q := by
  rw [vc_q (o := (17, 0, 0, 0, [])) (by decide +kernel)]; rfl
theorem v_81_225_ref (xs : Option (List Int32)) (n : Nat) (b : Bool) (d : Nat) (ml : List Value) (t : T) (Q : Option Value → T → Prop) (v : Nat) (r : List Value) : vc xs zH_81 (n + 1) b d 81 225 ml (.ref v :: r) t Q = vc xs zH_81 n true d 81 226 ml (.ref v :: .ref v :: r) t Q := by
  rw [vc_q (o := (17, 0, 0, 0, [])) (by decide +kernel)]; rfl
theorem v_81_226 (xs : Option (List Int32)) (n : Nat) (b : Bool) (d : Nat) (ml : List Value) (t : T) (Q : Option Value → T → Prop) (u : Nat) (r : List Value) : vc xs zH_81 (n + 1) b d 81 226 ml (.ref u :: r) t Q = (vtag u = 12 ∧ vc xs zH_81 n true d 81 229 ml (.int (t.1 u 26) :: r) t Q) := by
  rw [vc_q (o := (24, 0, 12, 26, [])) (by decide +kernel)]; rfl
theorem v_81_229 (xs : Option (List Int32)) (n : Nat) (b : Bool) (d : Nat) (ml : List Value) (t : T) (Q : Option Value → T → Prop) (st : List Value) : vc xs zH_81 (n + 1) b d 81 229 ml st t Q = vc xs zH_81 n true d 81 230 ml (.int 1 :: st) t Q := by
  rw [vc_q (o := (0, 1, 0, 0, [])) (by decide +kernel)]; rfl
theorem v_81_230 (xs : Option (List Int32)) (n : Nat) (b : Bool) (d : Nat) (ml : List Value) (t : T) (Q : Option Value → T → Prop) (u v : Int32) (r : List Value) : vc xs zH_81 (n + 1) b d 81 230 ml (.int v :: .int u :: r) t Q = vc xs zH_81 n true d 81 231 ml (.int (u + v) :: r) t Q := by
  rw [vc_q (o := (6, 0, 0, 0, [])) (by decide +kernel)]; rfl
theorem v_81_231 (xs : Option (List Int32)) (n : Nat) (b : Bool) (d : Nat) (ml : List Value) (t : T) (Q : Option Value → T → Prop) (v : Int32) (u : Nat) (r : List Value) : vc xs zH_81 (n + 1) b d 81 231 ml (.int v :: .ref u :: r) t Q = (vtag u = 12 ∧ vc xs zH_81 n true d 81 234 ml r (tsi t u 26 v) Q) := by
  rw [vc_q (o := (26, 0, 12, 26, [])) (by decide +kernel)]; rfl
theorem v_81_234 (xs : Option (List Int32)) (n : Nat) (d : Nat) (ml : List Value) (t : T) (Q : Option Value → T → Prop) (st : List Value) : vc xs zH_81 (n + 1) false d 81 234 ml st t Q = vga ml 0 (fun v => vc xs zH_81 n true d 81 235 ml (.ref v :: st) t Q) := by
  rw [vc_q (o := (2, 0, 0, 0, [])) (by decide +kernel)]; rfl
theorem h_81_234 (xs : Option (List Int32)) (n d : Nat) (ml st : List Value) (t : T) (Q : Option Value → T → Prop) : vc xs zH_81 (n + 1) true d 81 234 ml st t Q = twp xs d 81 234 ml st t Q := id rfl
theorem v_81_235 (xs : Option (List Int32)) (n : Nat) (b : Bool) (d : Nat) (ml : List Value) (t : T) (Q : Option Value → T → Prop) (st : List Value) : vc xs zH_81 (n + 1) b d 81 235 ml st t Q = vgi ml 4 (fun v => vc xs zH_81 n true d 81 237 ml (.int v :: st) t Q) := by
  rw [vc_q (o := (1, 0, 4, 1, [])) (by decide +kernel)]; rfl
theorem v_81_237 (xs : Option (List Int32)) (n : Nat) (b : Bool) (d : Nat) (ml : List Value) (t : T) (Q : Option Value → T → Prop) (st : List Value) : vc xs zH_81 (n + 1) b d 81 237 ml st t Q = vgi ml 7 (fun v => vc xs zH_81 n true d 81 239 ml (.int v :: st) t Q) := by
  rw [vc_q (o := (1, 0, 7, 1, [])) (by decide +kernel)]; rfl
theorem v_81_239 (xs : Option (List Int32)) (n : Nat) (b : Bool) (d : Nat) (ml : List Value) (t : T) (Q : Option Value → T → Prop) (st : List Value) : vc xs zH_81 (n + 1) b d 81 239 ml st t Q = vc xs zH_81 n true d 81 240 ml (.int 0 :: st) t Q := by
  rw [vc_q (o := (0, 0, 0, 0, [])) (by decide +kernel)]; rfl
theorem v_81_240 (xs : Option (List Int32)) (n : Nat) (b : Bool) (d : Nat) (ml : List Value) (t : T) (Q : Option Value → T → Prop) (st : List Value) : vc xs zH_81 (n + 1) b d 81 240 ml st t Q = (st.all zc1 = true ∧ vtk 4 st [] (fun as rest => rest.length ≤ 8 ∧ vrc as 12 (twc d 39 as t (fun r t' => vc xs zH_81 n true d 81 243 ml (r.toList ++ rest) t' Q)))) := by
  rw [vc_q (o := (36, 0, 39, 3, [(0, 12)])) (by decide +kernel)]; rfl
theorem v_81_243 (xs : Option (List Int32)) (n : Nat) (b : Bool) (d : Nat) (ml : List Value) (t : T) (Q : Option Value → T → Prop) (st : List Value) : vc xs zH_81 (n + 1) b d 81 243 ml st t Q = vga ml 0 (fun v => vc xs zH_81 n true d 81 244 ml (.ref v :: st) t Q) := by
  rw [vc_q (o := (2, 0, 0, 0, [])) (by decide +kernel)]; rfl
theorem v_81_244 (xs : Option (List Int32)) (n : Nat) (b : Bool) (d : Nat) (ml : List Value) (t : T) (Q : Option Value → T → Prop) (u : Nat) (r : List Value) : vc xs zH_81 (n + 1) b d 81 244 ml (.ref u :: r) t Q = (vtag u = 12 ∧ vc xs zH_81 n true d 81 247 ml (.int (t.1 u 26) :: r) t Q) := by
  rw [vc_q (o := (24, 0, 12, 26, [])) (by decide +kernel)]; rfl
theorem v_81_247 (xs : Option (List Int32)) (n : Nat) (b : Bool) (d : Nat) (ml : List Value) (t : T) (Q : Option Value → T → Prop) (st : List Value) : vc xs zH_81 (n + 1) b d 81 247 ml st t Q = vc xs zH_81 n true d 81 249 ml (.int 40 :: st) t Q := by
  rw [vc_q (o := (0, 40, 1, 0, [])) (by decide +kernel)]; rfl
theorem v_81_249 (xs : Option (List Int32)) (n : Nat) (b : Bool) (d : Nat) (ml : List Value) (t : T) (Q : Option Value → T → Prop) (u v : Int32) (r : List Value) : vc xs zH_81 (n + 1) b d 81 249 ml (.int v :: .int u :: r) t Q = (if v < u then vc xs zH_81 n true d 81 252 ml r t Q else vc xs zH_81 n true d 81 254 ml r t Q) := by
  rw [vc_q (o := (20, 0, 254, 5, [])) (by decide +kernel)]; rfl
theorem v_81_252 (xs : Option (List Int32)) (n : Nat) (b : Bool) (d : Nat) (ml : List Value) (t : T) (Q : Option Value → T → Prop) (st : List Value) : vc xs zH_81 (n + 1) b d 81 252 ml st t Q = vc xs zH_81 n true d 81 253 ml (.int 0 :: st) t Q := by
  rw [vc_q (o := (0, 0, 0, 0, [])) (by decide +kernel)]; rfl
theorem v_81_253 (xs : Option (List Int32)) (n : Nat) (b : Bool) (d : Nat) (ml : List Value) (t : T) (Q : Option Value → T → Prop) (v : Int32) : vc xs zH_81 (n + 1) b d 81 253 ml [.int v] t Q = ((v = 0 ∨ v = 1) ∧ Q (some (.int v)) t) := by
  rw [vc_q (o := (41, 0, 0, 0, [])) (by decide +kernel)]; rfl
theorem v_81_254 (xs : Option (List Int32)) (n : Nat) (d : Nat) (ml : List Value) (t : T) (Q : Option Value → T → Prop) (st : List Value) : vc xs zH_81 (n + 1) false d 81 254 ml st t Q = vc xs zH_81 n true d 81 7 ml st t Q := by
  rw [vc_q (o := (22, 0, 7, 0, [])) (by decide +kernel)]; rfl
theorem h_81_254 (xs : Option (List Int32)) (n d : Nat) (ml st : List Value) (t : T) (Q : Option Value → T → Prop) : vc xs zH_81 (n + 1) true d 81 254 ml st t Q = twp xs d 81 254 ml st t Q := id rfl
theorem v_81_257 (xs : Option (List Int32)) (n : Nat) (b : Bool) (d : Nat) (ml : List Value) (t : T) (Q : Option Value → T → Prop) (st : List Value) : vc xs zH_81 (n + 1) b d 81 257 ml st t Q = vc xs zH_81 n true d 81 258 ml (.int 1 :: st) t Q := by
  rw [vc_q (o := (0, 1, 0, 0, [])) (by decide +kernel)]; rfl
theorem v_81_258 (xs : Option (List Int32)) (n : Nat) (b : Bool) (d : Nat) (ml : List Value) (t : T) (Q : Option Value → T → Prop) (v : Int32) : vc xs zH_81 (n + 1) b d 81 258 ml [.int v] t Q = ((v = 0 ∨ v = 1) ∧ Q (some (.int v)) t) := by
  rw [vc_q (o := (41, 0, 0, 0, [])) (by decide +kernel)]; rfl
def zH_82 : List Nat := []
theorem v_82_0 (xs : Option (List Int32)) (n : Nat) (b : Bool) (d : Nat) (ml : List Value) (t : T) (Q : Option Value → T → Prop) (st : List Value) : vc xs zH_82 (n + 1) b d 82 0 ml st t Q = vga ml 0 (fun v => vc xs zH_82 n true d 82 1 ml (.ref v :: st) t Q) := by
  rw [vc_q (o := (2, 0, 0, 0, [])) (by decide +kernel)]; rfl
theorem v_82_1 (xs : Option (List Int32)) (n : Nat) (b : Bool) (d : Nat) (ml : List Value) (t : T) (Q : Option Value → T → Prop) (u : Nat) (r : List Value) : vc xs zH_82 (n + 1) b d 82 1 ml (.ref u :: r) t Q = (vtag u = 12 ∧ vc xs zH_82 n true d 82 4 ml (.ref (tref t u 12) :: r) t Q) := by
  rw [vc_q (o := (25, 0, 12, 12, [])) (by decide +kernel)]; rfl
theorem v_82_4 (xs : Option (List Int32)) (n : Nat) (b : Bool) (d : Nat) (ml : List Value) (t : T) (Q : Option Value → T → Prop) (st : List Value) : vc xs zH_82 (n + 1) b d 82 4 ml st t Q = vgi ml 2 (fun v => vc xs zH_82 n true d 82 5 ml (.int v :: st) t Q) := by
  rw [vc_q (o := (1, 0, 2, 0, [])) (by decide +kernel)]; rfl
theorem v_82_5 (xs : Option (List Int32)) (n : Nat) (b : Bool) (d : Nat) (ml : List Value) (t : T) (Q : Option Value → T → Prop) (v : Int32) (u : Nat) (r : List Value) : vc xs zH_82 (n + 1) b d 82 5 ml (.int v :: .ref u :: r) t Q = (vtag u = 100 ∧ vinb v (vlen u) ∧ vc xs zH_82 n true d 82 6 ml (.int (t.1 u v.toNatClampNeg) :: r) t Q) := by
  rw [vc_q (o := (29, 0, 0, 0, [])) (by decide +kernel)]; rfl
theorem v_82_6 (xs : Option (List Int32)) (n : Nat) (b : Bool) (d : Nat) (ml : List Value) (t : T) (Q : Option Value → T → Prop) (v : Int32) (r : List Value) : vc xs zH_82 (n + 1) b d 82 6 ml (.int v :: r) t Q = vset ml 5 (.int v) (fun l => vc xs zH_82 n true d 82 8 l r t Q) := by
  rw [vc_q (o := (3, 0, 5, 1, [])) (by decide +kernel)]; rfl
theorem v_82_8 (xs : Option (List Int32)) (n : Nat) (b : Bool) (d : Nat) (ml : List Value) (t : T) (Q : Option Value → T → Prop) (st : List Value) : vc xs zH_82 (n + 1) b d 82 8 ml st t Q = vga ml 0 (fun v => vc xs zH_82 n true d 82 9 ml (.ref v :: st) t Q) := by
  rw [vc_q (o := (2, 0, 0, 0, [])) (by decide +kernel)]; rfl
theorem v_82_9 (xs : Option (List Int32)) (n : Nat) (b : Bool) (d : Nat) (ml : List Value) (t : T) (Q : Option Value → T → Prop) (u : Nat) (r : List Value) : vc xs zH_82 (n + 1) b d 82 9 ml (.ref u :: r) t Q = (vtag u = 12 ∧ vc xs zH_82 n true d 82 12 ml (.ref (tref t u 13) :: r) t Q) := by
  rw [vc_q (o := (25, 0, 12, 13, [])) (by decide +kernel)]; rfl
theorem v_82_12 (xs : Option (List Int32)) (n : Nat) (b : Bool) (d : Nat) (ml : List Value) (t : T) (Q : Option Value → T → Prop) (st : List Value) : vc xs zH_82 (n + 1) b d 82 12 ml st t Q = vgi ml 2 (fun v => vc xs zH_82 n true d 82 13 ml (.int v :: st) t Q) := by
  rw [vc_q (o := (1, 0, 2, 0, [])) (by decide +kernel)]; rfl
theorem v_82_13 (xs : Option (List Int32)) (n : Nat) (b : Bool) (d : Nat) (ml : List Value) (t : T) (Q : Option Value → T → Prop) (v : Int32) (u : Nat) (r : List Value) : vc xs zH_82 (n + 1) b d 82 13 ml (.int v :: .ref u :: r) t Q = (vtag u = 100 ∧ vinb v (vlen u) ∧ vc xs zH_82 n true d 82 14 ml (.int (t.1 u v.toNatClampNeg) :: r) t Q) := by
  rw [vc_q (o := (29, 0, 0, 0, [])) (by decide +kernel)]; rfl
theorem v_82_14 (xs : Option (List Int32)) (n : Nat) (b : Bool) (d : Nat) (ml : List Value) (t : T) (Q : Option Value → T → Prop) (v : Int32) (r : List Value) : vc xs zH_82 (n + 1) b d 82 14 ml (.int v :: r) t Q = vset ml 6 (.int v) (fun l => vc xs zH_82 n true d 82 16 l r t Q) := by
  rw [vc_q (o := (3, 0, 6, 1, [])) (by decide +kernel)]; rfl
theorem v_82_16 (xs : Option (List Int32)) (n : Nat) (b : Bool) (d : Nat) (ml : List Value) (t : T) (Q : Option Value → T → Prop) (st : List Value) : vc xs zH_82 (n + 1) b d 82 16 ml st t Q = vga ml 0 (fun v => vc xs zH_82 n true d 82 17 ml (.ref v :: st) t Q) := by
  rw [vc_q (o := (2, 0, 0, 0, [])) (by decide +kernel)]; rfl
theorem v_82_17 (xs : Option (List Int32)) (n : Nat) (b : Bool) (d : Nat) (ml : List Value) (t : T) (Q : Option Value → T → Prop) (st : List Value) : vc xs zH_82 (n + 1) b d 82 17 ml st t Q = vgi ml 1 (fun v => vc xs zH_82 n true d 82 18 ml (.int v :: st) t Q) := by
  rw [vc_q (o := (1, 0, 1, 0, [])) (by decide +kernel)]; rfl
theorem v_82_18 (xs : Option (List Int32)) (n : Nat) (b : Bool) (d : Nat) (ml : List Value) (t : T) (Q : Option Value → T → Prop) (st : List Value) : vc xs zH_82 (n + 1) b d 82 18 ml st t Q = vgi ml 5 (fun v => vc xs zH_82 n true d 82 20 ml (.int v :: st) t Q) := by
  rw [vc_q (o := (1, 0, 5, 1, [])) (by decide +kernel)]; rfl
theorem v_82_20 (xs : Option (List Int32)) (n : Nat) (b : Bool) (d : Nat) (ml : List Value) (t : T) (Q : Option Value → T → Prop) (st : List Value) : vc xs zH_82 (n + 1) b d 82 20 ml st t Q = vgi ml 3 (fun v => vc xs zH_82 n true d 82 21 ml (.int v :: st) t Q) := by
  rw [vc_q (o := (1, 0, 3, 0, [])) (by decide +kernel)]; rfl
theorem v_82_21 (xs : Option (List Int32)) (n : Nat) (b : Bool) (d : Nat) (ml : List Value) (t : T) (Q : Option Value → T → Prop) (st : List Value) : vc xs zH_82 (n + 1) b d 82 21 ml st t Q = vgi ml 4 (fun v => vc xs zH_82 n true d 82 23 ml (.int v :: st) t Q) := by
  rw [vc_q (o := (1, 0, 4, 1, [])) (by decide +kernel)]; rfl
theorem v_82_23 (xs : Option (List Int32)) (n : Nat) (b : Bool) (d : Nat) (ml : List Value) (t : T) (Q : Option Value → T → Prop) (st : List Value) : vc xs zH_82 (n + 1) b d 82 23 ml st t Q = (st.all zc1 = true ∧ vtk 5 st [] (fun as rest => rest.length ≤ 8 ∧ vrc as 12 (twc d 43 as t (fun r t' => vc xs zH_82 n true d 82 26 ml (r.toList ++ rest) t' Q)))) := by
  rw [vc_q (o := (36, 0, 43, 4, [(0, 12)])) (by decide +kernel)]; rfl
theorem v_82_26 (xs : Option (List Int32)) (n : Nat) (b : Bool) (d : Nat) (ml : List Value) (t : T) (Q : Option Value → T → Prop) (v : Int32) (r : List Value) : vc xs zH_82 (n + 1) b d 82 26 ml (.int v :: r) t Q = vset ml 7 (.int v) (fun l => vc xs zH_82 n true d 82 28 l r t Q) := by
  rw [vc_q (o := (3, 0, 7, 1, [])) (by decide +kernel)]; rfl
theorem v_82_28 (xs : Option (List Int32)) (n : Nat) (b : Bool) (d : Nat) (ml : List Value) (t : T) (Q : Option Value → T → Prop) (st : List Value) : vc xs zH_82 (n + 1) b d 82 28 ml st t Q = vgi ml 7 (fun v => vc xs zH_82 n true d 82 30 ml (.int v :: st) t Q) := by
  rw [vc_q (o := (1, 0, 7, 1, [])) (by decide +kernel)]; rfl
theorem v_82_30 (xs : Option (List Int32)) (n : Nat) (b : Bool) (d : Nat) (ml : List Value) (t : T) (Q : Option Value → T → Prop) (st : List Value) : vc xs zH_82 (n + 1) b d 82 30 ml st t Q = vgi ml 6 (fun v => vc xs zH_82 n true d 82 32 ml (.int v :: st) t Q) := by
  rw [vc_q (o := (1, 0, 6, 1, [])) (by decide +kernel)]; rfl
theorem v_82_32 (xs : Option (List Int32)) (n : Nat) (b : Bool) (d : Nat) (ml : List Value) (t : T) (Q : Option Value → T → Prop) (u v : Int32) (r : List Value) : vc xs zH_82 (n + 1) b d 82 32 ml (.int v :: .int u :: r) t Q = (if u = v then vc xs zH_82 n true d 82 53 ml r t Q else vc xs zH_82 n true d 82 35 ml r t Q) := by
  rw [vc_q (o := (20, 0, 53, 0, [])) (by decide +kernel)]; rfl
theorem v_82_35 (xs : Option (List Int32)) (n : Nat) (b : Bool) (d : Nat) (ml : List Value) (t : T) (Q : Option Value → T → Prop) (st : List Value) : vc xs zH_82 (n + 1) b d 82 35 ml st t Q = vga ml 0 (fun v => vc xs zH_82 n true d 82 36 ml (.ref v :: st) t Q) := by
  rw [vc_q (o := (2, 0, 0, 0, [])) (by decide +kernel)]; rfl
theorem v_82_36 (xs : Option (List Int32)) (n : Nat) (b : Bool) (d : Nat) (ml : List Value) (t : T) (Q : Option Value → T → Prop) (st : List Value) : vc xs zH_82 (n + 1) b d 82 36 ml st t Q = vgi ml 1 (fun v => vc xs zH_82 n true d 82 37 ml (.int v :: st) t Q) := by
  rw [vc_q (o := (1, 0, 1, 0, [])) (by decide +kernel)]; rfl
theorem v_82_37 (xs : Option (List Int32)) (n : Nat) (b : Bool) (d : Nat) (ml : List Value) (t : T) (Q : Option Value → T → Prop) (st : List Value) : vc xs zH_82 (n + 1) b d 82 37 ml st t Q = vga ml 0 (fun v => vc xs zH_82 n true d 82 38 ml (.ref v :: st) t Q) := by
  rw [vc_q (o := (2, 0, 0, 0, [])) (by decide +kernel)]; rfl
theorem v_82_38 (xs : Option (List Int32)) (n : Nat) (b : Bool) (d : Nat) (ml : List Value) (t : T) (Q : Option Value → T → Prop) (u : Nat) (r : List Value) : vc xs zH_82 (n + 1) b d 82 38 ml (.ref u :: r) t Q = (vtag u = 12 ∧ vc xs zH_82 n true d 82 41 ml (.ref (tref t u 11) :: r) t Q) := by
  rw [vc_q (o := (25, 0, 12, 11, [])) (by decide +kernel)]; rfl
theorem v_82_41 (xs : Option (List Int32)) (n : Nat) (b : Bool) (d : Nat) (ml : List Value) (t : T) (Q : Option Value → T → Prop) (st : List Value) : vc xs zH_82 (n + 1) b d 82 41 ml st t Q = vgi ml 2 (fun v => vc xs zH_82 n true d 82 42 ml (.int v :: st) t Q) := by
  rw [vc_q (o := (1, 0, 2, 0, [])) (by decide +kernel)]; rfl
theorem v_82_42 (xs : Option (List Int32)) (n : Nat) (b : Bool) (d : Nat) (ml : List Value) (t : T) (Q : Option Value → T → Prop) (v : Int32) (u : Nat) (r : List Value) : vc xs zH_82 (n + 1) b d 82 42 ml (.int v :: .ref u :: r) t Q = (vtag u = 100 ∧ vinb v (vlen u) ∧ vc xs zH_82 n true d 82 43 ml (.int (t.1 u v.toNatClampNeg) :: r) t Q) := by
  rw [vc_q (o := (29, 0, 0, 0, [])) (by decide +kernel)]; rfl
theorem v_82_43 (xs : Option (List Int32)) (n : Nat) (b : Bool) (d : Nat) (ml : List Value) (t : T) (Q : Option Value → T → Prop) (st : List Value) : vc xs zH_82 (n + 1) b d 82 43 ml st t Q = vgi ml 3 (fun v => vc xs zH_82 n true d 82 44 ml (.int v :: st) t Q) := by
  rw [vc_q (o := (1, 0, 3, 0, [])) (by decide +kernel)]; rfl
theorem v_82_44 (xs : Option (List Int32)) (n : Nat) (b : Bool) (d : Nat) (ml : List Value) (t : T) (Q : Option Value → T → Prop) (st : List Value) : vc xs zH_82 (n + 1) b d 82 44 ml st t Q = vgi ml 4 (fun v => vc xs zH_82 n true d 82 46 ml (.int v :: st) t Q) := by
  rw [vc_q (o := (1, 0, 4, 1, [])) (by decide +kernel)]; rfl
theorem v_82_46 (xs : Option (List Int32)) (n : Nat) (b : Bool) (d : Nat) (ml : List Value) (t : T) (Q : Option Value → T → Prop) (st : List Value) : vc xs zH_82 (n + 1) b d 82 46 ml st t Q = (st.all zc1 = true ∧ vtk 5 st [] (fun as rest => rest.length ≤ 8 ∧ vrc as 12 (twc d 68 as t (fun r t' => vc xs zH_82 n true d 82 49 ml (r.toList ++ rest) t' Q)))) := by
  rw [vc_q (o := (36, 0, 68, 4, [(0, 12)])) (by decide +kernel)]; rfl
theorem v_82_49 (xs : Option (List Int32)) (n : Nat) (b : Bool) (d : Nat) (ml : List Value) (t : T) (Q : Option Value → T → Prop) (st : List Value) : vc xs zH_82 (n + 1) b d 82 49 ml st t Q = vc xs zH_82 n true d 82 50 ml (.int 1 :: st) t Q := by
  rw [vc_q (o := (0, 1, 0, 0, [])) (by decide +kernel)]; rfl
theorem v_82_50 (xs : Option (List Int32)) (n : Nat) (b : Bool) (d : Nat) (ml : List Value) (t : T) (Q : Option Value → T → Prop) (u v : Int32) (r : List Value) : vc xs zH_82 (n + 1) b d 82 50 ml (.int v :: .int u :: r) t Q = (if u = v then vc xs zH_82 n true d 82 55 ml r t Q else vc xs zH_82 n true d 82 53 ml r t Q) := by
  rw [vc_q (o := (20, 0, 55, 0, [])) (by decide +kernel)]; rfl
theorem v_82_53 (xs : Option (List Int32)) (n : Nat) (b : Bool) (d : Nat) (ml : List Value) (t : T) (Q : Option Value → T → Prop) (st : List Value) : vc xs zH_82 (n + 1) b d 82 53 ml st t Q = vc xs zH_82 n true d 82 54 ml (.int 0 :: st) t Q := by
  rw [vc_q (o := (0, 0, 0, 0, [])) (by decide +kernel)]; rfl
theorem v_82_54 (xs : Option (List Int32)) (n : Nat) (b : Bool) (d : Nat) (ml : List Value) (t : T) (Q : Option Value → T → Prop) (v : Int32) : vc xs zH_82 (n + 1) b d 82 54 ml [.int v] t Q = Q (some (.int v)) t := by
  rw [vc_q (o := (40, 0, 0, 0, [])) (by decide +kernel)]; rfl
theorem v_82_55 (xs : Option (List Int32)) (n : Nat) (b : Bool) (d : Nat) (ml : List Value) (t : T) (Q : Option Value → T → Prop) (st : List Value) : vc xs zH_82 (n + 1) b d 82 55 ml st t Q = vgi ml 7 (fun v => vc xs zH_82 n true d 82 57 ml (.int v :: st) t Q) := by
  rw [vc_q (o := (1, 0, 7, 1, [])) (by decide +kernel)]; rfl
theorem v_82_57 (xs : Option (List Int32)) (n : Nat) (b : Bool) (d : Nat) (ml : List Value) (t : T) (Q : Option Value → T → Prop) (st : List Value) : vc xs zH_82 (n + 1) b d 82 57 ml st t Q = vc xs zH_82 n true d 82 58 ml (.int 2 :: st) t Q := by
  rw [vc_q (o := (0, 2, 0, 0, [])) (by decide +kernel)]; rfl
theorem v_82_58 (xs : Option (List Int32)) (n : Nat) (b : Bool) (d : Nat) (ml : List Value) (t : T) (Q : Option Value → T → Prop) (u v : Int32) (r : List Value) : vc xs zH_82 (n + 1) b d 82 58 ml (.int v :: .int u :: r) t Q = (if u = v then vc xs zH_82 n true d 82 61 ml r t Q else vc xs zH_82 n true d 82 73 ml r t Q) := by
  rw [vc_q (o := (20, 0, 73, 1, [])) (by decide +kernel)]; rfl
theorem v_82_61 (xs : Option (List Int32)) (n : Nat) (b : Bool) (d : Nat) (ml : List Value) (t : T) (Q : Option Value → T → Prop) (st : List Value) : vc xs zH_82 (n + 1) b d 82 61 ml st t Q = vgi ml 5 (fun v => vc xs zH_82 n true d 82 63 ml (.int v :: st) t Q) := by
  rw [vc_q (o := (1, 0, 5, 1, [])) (by decide +kernel)]; rfl
theorem v_82_63 (xs : Option (List Int32)) (n : Nat) (b : Bool) (d : Nat) (ml : List Value) (t : T) (Q : Option Value → T → Prop) (st : List Value) : vc xs zH_82 (n + 1) b d 82 63 ml st t Q = vc xs zH_82 n true d 82 65 ml (.int 8 :: st) t Q := by
  rw [vc_q (o := (0, 8, 1, 0, [])) (by decide +kernel)]; rfl
theorem v_82_65 (xs : Option (List Int32)) (n : Nat) (b : Bool) (d : Nat) (ml : List Value) (t : T) (Q : Option Value → T → Prop) (u v : Int32) (r : List Value) : vc xs zH_82 (n + 1) b d 82 65 ml (.int v :: .int u :: r) t Q = (if u = v then vc xs zH_82 n true d 82 68 ml r t Q else vc xs zH_82 n true d 82 75 ml r t Q) := by
  rw [vc_q (o := (20, 0, 75, 1, [])) (by decide +kernel)]; rfl
theorem v_82_68 (xs : Option (List Int32)) (n : Nat) (b : Bool) (d : Nat) (ml : List Value) (t : T) (Q : Option Value → T → Prop) (st : List Value) : vc xs zH_82 (n + 1) b d 82 68 ml st t Q = vgi ml 6 (fun v => vc xs zH_82 n true d 82 70 ml (.int v :: st) t Q) := by
  rw [vc_q (o := (1, 0, 6, 1, [])) (by decide +kernel)]; rfl
theorem v_82_70 (xs : Option (List Int32)) (n : Nat) (b : Bool) (d : Nat) (ml : List Value) (t : T) (Q : Option Value → T → Prop) (u : Int32) (r : List Value) : vc xs zH_82 (n + 1) b d 82 70 ml (.int u :: r) t Q = (if u = 0 then vc xs zH_82 n true d 82 73 ml r t Q else vc xs zH_82 n true d 82 75 ml r t Q) := by
  rw [vc_q (o := (21, 0, 75, 1, [])) (by decide +kernel)]; rfl
theorem v_82_73 (xs : Option (List Int32)) (n : Nat) (b : Bool) (d : Nat) (ml : List Value) (t : T) (Q : Option Value → T → Prop) (st : List Value) : vc xs zH_82 (n + 1) b d 82 73 ml st t Q = vc xs zH_82 n true d 82 74 ml (.int (-1) :: st) t Q := by
  rw [vc_q (o := (0, (-1), 0, 0, [])) (by decide +kernel)]; rfl
theorem v_82_74 (xs : Option (List Int32)) (n : Nat) (b : Bool) (d : Nat) (ml : List Value) (t : T) (Q : Option Value → T → Prop) (v : Int32) : vc xs zH_82 (n + 1) b d 82 74 ml [.int v] t Q = Q (some (.int v)) t := by
  rw [vc_q (o := (40, 0, 0, 0, [])) (by decide +kernel)]; rfl
theorem v_82_75 (xs : Option (List Int32)) (n : Nat) (b : Bool) (d : Nat) (ml : List Value) (t : T) (Q : Option Value → T → Prop) (st : List Value) : vc xs zH_82 (n + 1) b d 82 75 ml st t Q = vga ml 0 (fun v => vc xs zH_82 n true d 82 76 ml (.ref v :: st) t Q) := by
  rw [vc_q (o := (2, 0, 0, 0, [])) (by decide +kernel)]; rfl
theorem v_82_76 (xs : Option (List Int32)) (n : Nat) (b : Bool) (d : Nat) (ml : List Value) (t : T) (Q : Option Value → T → Prop) (st : List Value) : vc xs zH_82 (n + 1) b d 82 76 ml st t Q = vgi ml 1 (fun v => vc xs zH_82 n true d 82 77 ml (.int v :: st) t Q) := by
  rw [vc_q (o := (1, 0, 1, 0, [])) (by decide +kernel)]; rfl
theorem v_82_77 (xs : Option (List Int32)) (n : Nat) (b : Bool) (d : Nat) (ml : List Value) (t : T) (Q : Option Value → T → Prop) (st : List Value) : vc xs zH_82 (n + 1) b d 82 77 ml st t Q = vgi ml 5 (fun v => vc xs zH_82 n true d 82 79 ml (.int v :: st) t Q) := by
  rw [vc_q (o := (1, 0, 5, 1, [])) (by decide +kernel)]; rfl
theorem v_82_79 (xs : Option (List Int32)) (n : Nat) (b : Bool) (d : Nat) (ml : List Value) (t : T) (Q : Option Value → T → Prop) (st : List Value) : vc xs zH_82 (n + 1) b d 82 79 ml st t Q = vc xs zH_82 n true d 82 81 ml (.int 8 :: st) t Q := by
  rw [vc_q (o := (0, 8, 1, 0, [])) (by decide +kernel)]; rfl
theorem v_82_81 (xs : Option (List Int32)) (n : Nat) (b : Bool) (d : Nat) (ml : List Value) (t : T) (Q : Option Value → T → Prop) (u v : Int32) (r : List Value) : vc xs zH_82 (n + 1) b d 82 81 ml (.int v :: .int u :: r) t Q = (if u = v then vc xs zH_82 n true d 82 84 ml r t Q else vc xs zH_82 n true d 82 92 ml r t Q) := by
  rw [vc_q (o := (20, 0, 92, 1, [])) (by decide +kernel)]; rfl
theorem v_82_84 (xs : Option (List Int32)) (n : Nat) (b : Bool) (d : Nat) (ml : List Value) (t : T) (Q : Option Value → T → Prop) (st : List Value) : vc xs zH_82 (n + 1) b d 82 84 ml st t Q = vc xs zH_82 n true d 82 85 ml (.int 3 :: st) t Q := by
  rw [vc_q (o := (0, 3, 0, 0, [])) (by decide +kernel)]; rfl
theorem v_82_85 (xs : Option (List Int32)) (n : Nat) (b : Bool) (d : Nat) (ml : List Value) (t : T) (Q : Option Value → T → Prop) (st : List Value) : vc xs zH_82 (n + 1) b d 82 85 ml st t Q = vc xs zH_82 n true d 82 86 ml (.int 5 :: st) t Q := by
  rw [vc_q (o := (0, 5, 0, 0, [])) (by decide +kernel)]; rfl
theorem v_82_86 (xs : Option (List Int32)) (n : Nat) (b : Bool) (d : Nat) (ml : List Value) (t : T) (Q : Option Value → T → Prop) (st : List Value) : vc xs zH_82 (n + 1) b d 82 86 ml st t Q = vgi ml 3 (fun v => vc xs zH_82 n true d 82 87 ml (.int v :: st) t Q) := by
  rw [vc_q (o := (1, 0, 3, 0, [])) (by decide +kernel)]; rfl
theorem v_82_87 (xs : Option (List Int32)) (n : Nat) (b : Bool) (d : Nat) (ml : List Value) (t : T) (Q : Option Value → T → Prop) (u v : Int32) (r : List Value) : vc xs zH_82 (n + 1) b d 82 87 ml (.int v :: .int u :: r) t Q = vc xs zH_82 n true d 82 88 ml (.int (u * v) :: r) t Q := by
  rw [vc_q (o := (8, 0, 0, 0, [])) (by decide +kernel)]; rfl
theorem v_82_88 (xs : Option (List Int32)) (n : Nat) (b : Bool) (d : Nat) (ml : List Value) (t : T) (Q : Option Value → T → Prop) (u v : Int32) (r : List Value) : vc xs zH_82 (n + 1) b d 82 88 ml (.int v :: .int u :: r) t Q = vc xs zH_82 n true d 82 89 ml (.int (u + v) :: r) t Q := by
  rw [vc_q (o := (6, 0, 0, 0, [])) (by decide +kernel)]; rfl
theorem v_82_89 (xs : Option (List Int32)) (n : Nat) (b : Bool) (d : Nat) (ml : List Value) (t : T) (Q : Option Value → T → Prop) (st : List Value) : vc xs zH_82 (n + 1) b d 82 89 ml st t Q = vc xs zH_82 n true d 82 100 ml st t Q := by
  rw [vc_q (o := (22, 0, 100, 0, [])) (by decide +kernel)]; rfl
theorem v_82_92 (xs : Option (List Int32)) (n : Nat) (b : Bool) (d : Nat) (ml : List Value) (t : T) (Q : Option Value → T → Prop) (st : List Value) : vc xs zH_82 (n + 1) b d 82 92 ml st t Q = vgi ml 5 (fun v => vc xs zH_82 n true d 82 94 ml (.int v :: st) t Q) := by
  rw [vc_q (o := (1, 0, 5, 1, [])) (by decide +kernel)]; rfl
theorem v_82_94 (xs : Option (List Int32)) (n : Nat) (b : Bool) (d : Nat) (ml : List Value) (t : T) (Q : Option Value → T → Prop) (st : List Value) : vc xs zH_82 (n + 1) b d 82 94 ml st t Q = vgi ml 3 (fun v => vc xs zH_82 n true d 82 95 ml (.int v :: st) t Q) := by
  rw [vc_q (o := (1, 0, 3, 0, [])) (by decide +kernel)]; rfl
theorem v_82_95 (xs : Option (List Int32)) (n : Nat) (b : Bool) (d : Nat) (ml : List Value) (t : T) (Q : Option Value → T → Prop) (st : List Value) : vc xs zH_82 (n + 1) b d 82 95 ml st t Q = vgi ml 4 (fun v => vc xs zH_82 n true d 82 97 ml (.int v :: st) t Q) := by
  rw [vc_q (o := (1, 0, 4, 1, [])) (by decide +kernel)]; rfl
theorem v_82_97 (xs : Option (List Int32)) (n : Nat) (b : Bool) (d : Nat) (ml : List Value) (t : T) (Q : Option Value → T → Prop) (st : List Value) : vc xs zH_82 (n + 1) b d 82 97 ml st t Q = (st.all zc1 = true ∧ vtk 3 st [] (fun as rest => rest.length ≤ 8 ∧ twc d 41 as t (fun r t' => vc xs zH_82 n true d 82 100 ml (r.toList ++ rest) t' Q))) := by
  rw [vc_q (o := (37, 0, 41, 3, [])) (by decide +kernel)]; rfl
theorem v_82_100 (xs : Option (List Int32)) (n : Nat) (b : Bool) (d : Nat) (ml : List Value) (t : T) (Q : Option Value → T → Prop) (st : List Value) : vc xs zH_82 (n + 1) b d 82 100 ml st t Q = vgi ml 5 (fun v => vc xs zH_82 n true d 82 102 ml (.int v :: st) t Q) := by
  rw [vc_q (o := (1, 0, 5, 1, [])) (by decide +kernel)]; rfl
theorem v_82_102 (xs : Option (List Int32)) (n : Nat) (b : Bool) (d : Nat) (ml : List Value) (t : T) (Q : Option Value → T → Prop) (st : List Value) : vc xs zH_82 (n + 1) b d 82 102 ml st t Q = vc xs zH_82 n true d 82 104 ml (.int 8 :: st) t Q := by
  rw [vc_q (o := (0, 8, 1, 0, [])) (by decide +kernel)]; rfl
theorem v_82_104 (xs : Option (List Int32)) (n : Nat) (b : Bool) (d : Nat) (ml : List Value) (t : T) (Q : Option Value → T → Prop) (u v : Int32) (r : List Value) : vc xs zH_82 (n + 1) b d 82 104 ml (.int v :: .int u :: r) t Q = (if u = v then vc xs zH_82 n true d 82 107 ml r t Q else vc xs zH_82 n true d 82 111 ml r t Q) := by
  rw [vc_q (o := (20, 0, 111, 1, [])) (by decide +kernel)]; rfl
theorem v_82_107 (xs : Option (List Int32)) (n : Nat) (b : Bool) (d : Nat) (ml : List Value) (t : T) (Q : Option Value → T → Prop) (st : List Value) : vc xs zH_82 (n + 1) b d 82 107 ml st t Q = vc xs zH_82 n true d 82 108 ml (.int 0 :: st) t Q := by
  rw [vc_q (o := (0, 0, 0, 0, [])) (by decide +kernel)]; rfl
theorem v_82_108 (xs : Option (List Int32)) (n : Nat) (b : Bool) (d : Nat) (ml : List Value) (t : T) (Q : Option Value → T → Prop) (st : List Value) : vc xs zH_82 (n + 1) b d 82 108 ml st t Q = vc xs zH_82 n true d 82 113 ml st t Q := by
  rw [vc_q (o := (22, 0, 113, 0, [])) (by decide +kernel)]; rfl
theorem v_82_111 (xs : Option (List Int32)) (n : Nat) (b : Bool) (d : Nat) (ml : List Value) (t : T) (Q : Option Value → T → Prop) (st : List Value) : vc xs zH_82 (n + 1) b d 82 111 ml st t Q = vgi ml 6 (fun v => vc xs zH_82 n true d 82 113 ml (.int v :: st) t Q) := by
  rw [vc_q (o := (1, 0, 6, 1, [])) (by decide +kernel)]; rfl
theorem v_82_113 (xs : Option (List Int32)) (n : Nat) (b : Bool) (d : Nat) (ml : List Value) (t : T) (Q : Option Value → T → Prop) (st : List Value) : vc xs zH_82 (n + 1) b d 82 113 ml st t Q = (st.all zc1 = true ∧ vtk 4 st [] (fun as rest => rest.length ≤ 8 ∧ vrc as 12 (twc d 39 as t (fun r t' => vc xs zH_82 n true d 82 116 ml (r.toList ++ rest) t' Q)))) := by
  rw [vc_q (o := (36, 0, 39, 3, [(0, 12)])) (by decide +kernel)]; rfl
theorem v_82_116 (xs : Option (List Int32)) (n : Nat) (b : Bool) (d : Nat) (ml : List Value) (t : T) (Q : Option Value → T → Prop) (st : List Value) : vc xs zH_82 (n + 1) b d 82 116 ml st t Q = vc xs zH_82 n true d 82 117 ml (.int 1 :: st) t Q := by
  rw [vc_q (o := (0, 1, 0, 0, [])) (by decide +kernel)]; rfl
theorem v_82_117 (xs : Option (List Int32)) (n : Nat) (b : Bool) (d : Nat) (ml : List Value) (t : T) (Q : Option Value → T → Prop) (v : Int32) : vc xs zH_82 (n + 1) b d 82 117 ml [.int v] t Q = Q (some (.int v)) t := by
  rw [vc_q (o := (40, 0, 0, 0, [])) (by decide +kernel)]; rfl
def zH_83 : List Nat := [2, 10, 21]
theorem v_83_0 (xs : Option (List Int32)) (n : Nat) (b : Bool) (d : Nat) (ml : List Value) (t : T) (Q : Option Value → T → Prop) (st : List Value) : vc xs zH_83 (n + 1) b d 83 0 ml st t Q = vc xs zH_83 n true d 83 1 ml (.int 1 :: st) t Q := by
  rw [vc_q (o := (0, 1, 0, 0, [])) (by decide +kernel)]; rfl
theorem v_83_1 (xs : Option (List Int32)) (n : Nat) (b : Bool) (d : Nat) (ml : List Value) (t : T) (Q : Option Value → T → Prop) (v : Int32) (r : List Value) : vc xs zH_83 (n + 1) b d 83 1 ml (.int v :: r) t Q = vset ml 2 (.int v) (fun l => vc xs zH_83 n true d 83 2 l r t Q) := by
  rw [vc_q (o := (3, 0, 2, 0, [])) (by decide +kernel)]; rfl
theorem v_83_2 (xs : Option (List Int32)) (n : Nat) (d : Nat) (ml : List Value) (t : T) (Q : Option Value → T → Prop) (st : List Value) : vc xs zH_83 (n + 1) false d 83 2 ml st t Q = vgi ml 2 (fun v => vc xs zH_83 n true d 83 3 ml (.int v :: st) t Q) := by
  rw [vc_q (o := (1, 0, 2, 0, [])) (by decide +kernel)]; rfl
theorem h_83_2 (xs : Option (List Int32)) (n d : Nat) (ml st : List Value) (t : T) (Q : Option Value → T → Prop) : vc xs zH_83 (n + 1) true d 83 2 ml st t Q = twp xs d 83 2 ml st t Q := id rfl
theorem v_83_3 (xs : Option (List Int32)) (n : Nat) (b : Bool) (d : Nat) (ml : List Value) (t : T) (Q : Option Value → T → Prop) (u : Int32) (r : List Value) : vc xs zH_83 (n + 1) b d 83 3 ml (.int u :: r) t Q = (if u = 0 then vc xs zH_83 n true d 83 109 ml r t Q else vc xs zH_83 n true d 83 6 ml r t Q) := by
  rw [vc_q (o := (21, 0, 109, 0, [])) (by decide +kernel)]; rfl
theorem v_83_6 (xs : Option (List Int32)) (n : Nat) (b : Bool) (d : Nat) (ml : List Value) (t : T) (Q : Option Value → T → Prop) (st : List Value) : vc xs zH_83 (n + 1) b d 83 6 ml st t Q = vc xs zH_83 n true d 83 7 ml (.int 0 :: st) t Q := by
  rw [vc_q (o := (0, 0, 0, 0, [])) (by decide +kernel)]; rfl
theorem v_83_7 (xs : Option (List Int32)) (n : Nat) (b : Bool) (d : Nat) (ml : List Value) (t : T) (Q : Option Value → T → Prop) (v : Int32) (r : List Value) : vc xs zH_83 (n + 1) b d 83 7 ml (.int v :: r) t Q = vset ml 2 (.int v) (fun l => vc xs zH_83 n true d 83 8 l r t Q) := by
  rw [vc_q (o := (3, 0, 2, 0, [])) (by decide +kernel)]; rfl
theorem v_83_8 (xs : Option (List Int32)) (n : Nat) (b : Bool) (d : Nat) (ml : List Value) (t : T) (Q : Option Value → T → Prop) (st : List Value) : vc xs zH_83 (n + 1) b d 83 8 ml st t Q = vc xs zH_83 n true d 83 9 ml (.int 0 :: st) t Q := by
  rw [vc_q (o := (0, 0, 0, 0, [])) (by decide +kernel)]; rfl
theorem v_83_9 (xs : Option (List Int32)) (n : Nat) (b : Bool) (d : Nat) (ml : List Value) (t : T) (Q : Option Value → T → Prop) (v : Int32) (r : List Value) : vc xs zH_83 (n + 1) b d 83 9 ml (.int v :: r) t Q = vset ml 3 (.int v) (fun l => vc xs zH_83 n true d 83 10 l r t Q) := by
  rw [vc_q (o := (3, 0, 3, 0, [])) (by decide +kernel)]; rfl
theorem v_83_10 (xs : Option (List Int32)) (n : Nat) (d : Nat) (ml : List Value) (t : T) (Q : Option Value → T → Prop) (st : List Value) : vc xs zH_83 (n + 1) false d 83 10 ml st t Q = vgi ml 3 (fun v => vc xs zH_83 n true d 83 11 ml (.int v :: st) t Q) := by
  rw [vc_q (o := (1, 0, 3, 0, [])) (by decide +kernel)]; rfl
theorem h_83_10 (xs : Option (List Int32)) (n d : Nat) (ml st : List Value) (t : T) (Q : Option Value → T → Prop) : vc xs zH_83 (n + 1) true d 83 10 ml st t Q = twp xs d 83 10 ml st t Q := id rfl
theorem v_83_11 (xs : Option (List Int32)) (n : Nat) (b : Bool) (d : Nat) (ml : List Value) (t : T) (Q : Option Value → T → Prop) (st : List Value) : vc xs zH_83 (n + 1) b d 83 11 ml st t Q = vga ml 0 (fun v => vc xs zH_83 n true d 83 12 ml (.ref v :: st) t Q) := by
  rw [vc_q (o := (2, 0, 0, 0, [])) (by decide +kernel)]; rfl
theorem v_83_12 (xs : Option (List Int32)) (n : Nat) (b : Bool) (d : Nat) (ml : List Value) (t : T) (Q : Option Value → T → Prop) (u : Nat) (r : List Value) : vc xs zH_83 (n + 1) b d 83 12 ml (.ref u :: r) t Q = (vtag u = 12 ∧ vc xs zH_83 n true d 83 15 ml (.int (t.1 u 10) :: r) t Q) := by
  rw [vc_q (o := (24, 0, 12, 10, [])) (by decide +kernel)]; rfl
theorem v_83_15 (xs : Option (List Int32)) (n : Nat) (b : Bool) (d : Nat) (ml : List Value) (t : T) (Q : Option Value → T → Prop) (u v : Int32) (r : List Value) : vc xs zH_83 (n + 1) b d 83 15 ml (.int v :: .int u :: r) t Q = (if u < v then vc xs zH_83 n true d 83 18 ml r t Q else vc xs zH_83 n true d 83 106 ml r t Q) := by
  rw [vc_q (o := (20, 0, 106, 3, [])) (by decide +kernel)]; rfl
theorem v_83_18 (xs : Option (List Int32)) (n : Nat) (b : Bool) (d : Nat) (ml : List Value) (t : T) (Q : Option Value → T → Prop) (st : List Value) : vc xs zH_83 (n + 1) b d 83 18 ml st t Q = vc xs zH_83 n true d 83 19 ml (.int 0 :: st) t Q := by
  rw [vc_q (o := (0, 0, 0, 0, [])) (by decide +kernel)]; rfl
theorem v_83_19 (xs : Option (List Int32)) (n : Nat) (b : Bool) (d : Nat) (ml : List Value) (t : T) (Q : Option Value → T → Prop) (v : Int32) (r : List Value) : vc xs zH_83 (n + 1) b d 83 19 ml (.int v :: r) t Q = vset ml 4 (.int v) (fun l => vc xs zH_83 n true d 83 21 l r t Q) := by
  rw [vc_q (o := (3, 0, 4, 1, [])) (by decide +kernel)]; rfl
theorem v_83_21 (xs : Option (List Int32)) (n : Nat) (d : Nat) (ml : List Value) (t : T) (Q : Option Value → T → Prop) (st : List Value) : vc xs zH_83 (n + 1) false d 83 21 ml st t Q = vgi ml 4 (fun v => vc xs zH_83 n true d 83 23 ml (.int v :: st) t Q) := by
  rw [vc_q (o := (1, 0, 4, 1, [])) (by decide +kernel)]; rfl
theorem h_83_21 (xs : Option (List Int32)) (n d : Nat) (ml st : List Value) (t : T) (Q : Option Value → T → Prop) : vc xs zH_83 (n + 1) true d 83 21 ml st t Q = twp xs d 83 21 ml st t Q := id rfl
theorem v_83_23 (xs : Option (List Int32)) (n : Nat) (b : Bool) (d : Nat) (ml : List Value) (t : T) (Q : Option Value → T → Prop) (st : List Value) : vc xs zH_83 (n + 1) b d 83 23 ml st t Q = vc xs zH_83 n true d 83 25 ml (.int 36 :: st) t Q := by
  rw [vc_q (o := (0, 36, 1, 0, [])) (by decide +kernel)]; rfl
theorem v_83_25 (xs : Option (List Int32)) (n : Nat) (b : Bool) (d : Nat) (ml : List Value) (t : T) (Q : Option Value → T → Prop) (u v : Int32) (r : List Value) : vc xs zH_83 (n + 1) b d 83 25 ml (.int v :: .int u :: r) t Q = (if u < v then vc xs zH_83 n true d 83 28 ml r t Q else vc xs zH_83 n true d 83 100 ml r t Q) := by
  rw [vc_q (o := (20, 0, 100, 3, [])) (by decide +kernel)]; rfl
theorem v_83_28 (xs : Option (List Int32)) (n : Nat) (b : Bool) (d : Nat) (ml : List Value) (t : T) (Q : Option Value → T → Prop) (st : List Value) : vc xs zH_83 (n + 1) b d 83 28 ml st t Q = vga ml 0 (fun v => vc xs zH_83 n true d 83 29 ml (.ref v :: st) t Q) := by
  rw [vc_q (o := (2, 0, 0, 0, [])) (by decide +kernel)]; rfl
theorem v_83_29 (xs : Option (List Int32)) (n : Nat) (b : Bool) (d : Nat) (ml : List Value) (t : T) (Q : Option Value → T → Prop) (st : List Value) : vc xs zH_83 (n + 1) b d 83 29 ml st t Q = vgi ml 1 (fun v => vc xs zH_83 n true d 83 30 ml (.int v :: st) t Q) := by
  rw [vc_q (o := (1, 0, 1, 0, [])) (by decide +kernel)]; rfl
theorem v_83_30 (xs : Option (List Int32)) (n : Nat) (b : Bool) (d : Nat) (ml : List Value) (t : T) (Q : Option Value → T → Prop) (st : List Value) : vc xs zH_83 (n + 1) b d 83 30 ml st t Q = vgi ml 4 (fun v => vc xs zH_83 n true d 83 32 ml (.int v :: st) t Q) := by
  rw [vc_q (o := (1, 0, 4, 1, [])) (by decide +kernel)]; rfl
theorem v_83_32 (xs : Option (List Int32)) (n : Nat) (b : Bool) (d : Nat) (ml : List Value) (t : T) (Q : Option Value → T → Prop) (st : List Value) : vc xs zH_83 (n + 1) b d 83 32 ml st t Q = vc xs zH_83 n true d 83 34 ml (.int 6 :: st) t Q := by
  rw [vc_q (o := (0, 6, 1, 0, [])) (by decide +kernel)]; rfl
theorem v_83_34 (xs : Option (List Int32)) (n : Nat) (b : Bool) (d : Nat) (ml : List Value) (t : T) (Q : Option Value → T → Prop) (u v : Int32) (r : List Value) : vc xs zH_83 (n + 1) b d 83 34 ml (.int v :: .int u :: r) t Q = (¬ v = 0 ∧ vc xs zH_83 n true d 83 35 ml (.int (u / v) :: r) t Q) := by
  rw [vc_q (o := (14, 0, 0, 0, [])) (by decide +kernel)]; rfl
theorem v_83_35 (xs : Option (List Int32)) (n : Nat) (b : Bool) (d : Nat) (ml : List Value) (t : T) (Q : Option Value → T → Prop) (st : List Value) : vc xs zH_83 (n + 1) b d 83 35 ml st t Q = (st.all zc1 = true ∧ vtk 3 st [] (fun as rest => rest.length ≤ 8 ∧ vrc as 12 (twc d 48 as t (fun r t' => vc xs zH_83 n true d 83 38 ml (r.toList ++ rest) t' Q)))) := by
  rw [vc_q (o := (36, 0, 48, 2, [(0, 12)])) (by decide +kernel)]; rfl
theorem v_83_38 (xs : Option (List Int32)) (n : Nat) (b : Bool) (d : Nat) (ml : List Value) (t : T) (Q : Option Value → T → Prop) (u : Int32) (r : List Value) : vc xs zH_83 (n + 1) b d 83 38 ml (.int u :: r) t Q = (if u = 0 then vc xs zH_83 n true d 83 94 ml r t Q else vc xs zH_83 n true d 83 41 ml r t Q) := by
  rw [vc_q (o := (21, 0, 94, 0, [])) (by decide +kernel)]; rfl
theorem v_83_41 (xs : Option (List Int32)) (n : Nat) (b : Bool) (d : Nat) (ml : List Value) (t : T) (Q : Option Value → T → Prop) (st : List Value) : vc xs zH_83 (n + 1) b d 83 41 ml st t Q = vga ml 0 (fun v => vc xs zH_83 n true d 83 42 ml (.ref v :: st) t Q) := by
  rw [vc_q (o := (2, 0, 0, 0, [])) (by decide +kernel)]; rfl
theorem v_83_42 (xs : Option (List Int32)) (n : Nat) (b : Bool) (d : Nat) (ml : List Value) (t : T) (Q : Option Value → T → Prop) (st : List Value) : vc xs zH_83 (n + 1) b d 83 42 ml st t Q = vgi ml 1 (fun v => vc xs zH_83 n true d 83 43 ml (.int v :: st) t Q) := by
  rw [vc_q (o := (1, 0, 1, 0, [])) (by decide +kernel)]; rfl
theorem v_83_43 (xs : Option (List Int32)) (n : Nat) (b : Bool) (d : Nat) (ml : List Value) (t : T) (Q : Option Value → T → Prop) (st : List Value) : vc xs zH_83 (n + 1) b d 83 43 ml st t Q = vgi ml 4 (fun v => vc xs zH_83 n true d 83 45 ml (.int v :: st) t Q) := by
  rw [vc_q (o := (1, 0, 4, 1, [])) (by decide +kernel)]; rfl
theorem v_83_45 (xs : Option (List Int32)) (n : Nat) (b : Bool) (d : Nat) (ml : List Value) (t : T) (Q : Option Value → T → Prop) (st : List Value) : vc xs zH_83 (n + 1) b d 83 45 ml st t Q = vc xs zH_83 n true d 83 47 ml (.int 6 :: st) t Q := by
  rw [vc_q (o := (0, 6, 1, 0, [])) (by decide +kernel)]; rfl
theorem v_83_47 (xs : Option (List Int32)) (n : Nat) (b : Bool) (d : Nat) (ml : List Value) (t : T) (Q : Option Value → T → Prop) (u v : Int32) (r : List Value) : vc xs zH_83 (n + 1) b d 83 47 ml (.int v :: .int u :: r) t Q = (¬ v = 0 ∧ vc xs zH_83 n true d 83 48 ml (.int (u - u / v * v) :: r) t Q) := by
  rw [vc_q (o := (15, 0, 0, 0, [])) (by decide +kernel)]; rfl
theorem v_83_48 (xs : Option (List Int32)) (n : Nat) (b : Bool) (d : Nat) (ml : List Value) (t : T) (Q : Option Value → T → Prop) (st : List Value) : vc xs zH_83 (n + 1) b d 83 48 ml st t Q = (st.all zc1 = true ∧ vtk 3 st [] (fun as rest => rest.length ≤ 8 ∧ vrc as 12 (twc d 48 as t (fun r t' => vc xs zH_83 n true d 83 51 ml (r.toList ++ rest) t' Q)))) := by
  rw [vc_q (o := (36, 0, 48, 2, [(0, 12)])) (by decide +kernel)]; rfl
theorem v_83_51 (xs : Option (List Int32)) (n : Nat) (b : Bool) (d : Nat) (ml : List Value) (t : T) (Q : Option Value → T → Prop) (u : Int32) (r : List Value) : vc xs zH_83 (n + 1) b d 83 51 ml (.int u :: r) t Q = (if u = 0 then vc xs zH_83 n true d 83 94 ml r t Q else vc xs zH_83 n true d 83 54 ml r t Q) := by
  rw [vc_q (o := (21, 0, 94, 0, [])) (by decide +kernel)]; rfl
theorem v_83_54 (xs : Option (List Int32)) (n : Nat) (b : Bool) (d : Nat) (ml : List Value) (t : T) (Q : Option Value → T → Prop) (st : List Value) : vc xs zH_83 (n + 1) b d 83 54 ml st t Q = vga ml 0 (fun v => vc xs zH_83 n true d 83 55 ml (.ref v :: st) t Q) := by
  rw [vc_q (o := (2, 0, 0, 0, [])) (by decide +kernel)]; rfl
theorem v_83_55 (xs : Option (List Int32)) (n : Nat) (b : Bool) (d : Nat) (ml : List Value) (t : T) (Q : Option Value → T → Prop) (st : List Value) : vc xs zH_83 (n + 1) b d 83 55 ml st t Q = vgi ml 1 (fun v => vc xs zH_83 n true d 83 56 ml (.int v :: st) t Q) := by
  rw [vc_q (o := (1, 0, 1, 0, [])) (by decide +kernel)]; rfl
theorem v_83_56 (xs : Option (List Int32)) (n : Nat) (b : Bool) (d : Nat) (ml : List Value) (t : T) (Q : Option Value → T → Prop) (st : List Value) : vc xs zH_83 (n + 1) b d 83 56 ml st t Q = vgi ml 3 (fun v => vc xs zH_83 n true d 83 57 ml (.int v :: st) t Q) := by
  rw [vc_q (o := (1, 0, 3, 0, [])) (by decide +kernel)]; rfl
theorem v_83_57 (xs : Option (List Int32)) (n : Nat) (b : Bool) (d : Nat) (ml : List Value) (t : T) (Q : Option Value → T → Prop) (st : List Value) : vc xs zH_83 (n + 1) b d 83 57 ml st t Q = vgi ml 4 (fun v => vc xs zH_83 n true d 83 59 ml (.int v :: st) t Q) := by
  rw [vc_q (o := (1, 0, 4, 1, [])) (by decide +kernel)]; rfl
theorem v_83_59 (xs : Option (List Int32)) (n : Nat) (b : Bool) (d : Nat) (ml : List Value) (t : T) (Q : Option Value → T → Prop) (st : List Value) : vc xs zH_83 (n + 1) b d 83 59 ml st t Q = vc xs zH_83 n true d 83 61 ml (.int 6 :: st) t Q := by
  rw [vc_q (o := (0, 6, 1, 0, [])) (by decide +kernel)]; rfl
theorem v_83_61 (xs : Option (List Int32)) (n : Nat) (b : Bool) (d : Nat) (ml : List Value) (t : T) (Q : Option Value → T → Prop) (u v : Int32) (r : List Value) : vc xs zH_83 (n + 1) b d 83 61 ml (.int v :: .int u :: r) t Q = (¬ v = 0 ∧ vc xs zH_83 n true d 83 62 ml (.int (u / v) :: r) t Q) := by
  rw [vc_q (o := (14, 0, 0, 0, [])) (by decide +kernel)]; rfl
theorem v_83_62 (xs : Option (List Int32)) (n : Nat) (b : Bool) (d : Nat) (ml : List Value) (t : T) (Q : Option Value → T → Prop) (st : List Value) : vc xs zH_83 (n + 1) b d 83 62 ml st t Q = vgi ml 4 (fun v => vc xs zH_83 n true d 83 64 ml (.int v :: st) t Q) := by
  rw [vc_q (o := (1, 0, 4, 1, [])) (by decide +kernel)]; rfl
theorem v_83_64 (xs : Option (List Int32)) (n : Nat) (b : Bool) (d : Nat) (ml : List Value) (t : T) (Q : Option Value → T → Prop) (st : List Value) : vc xs zH_83 (n + 1) b d 83 64 ml st t Q = vc xs zH_83 n true d 83 66 ml (.int 6 :: st) t Q := by
  rw [vc_q (o := (0, 6, 1, 0, [])) (by decide +kernel)]; rfl
theorem v_83_66 (xs : Option (List Int32)) (n : Nat) (b : Bool) (d : Nat) (ml : List Value) (t : T) (Q : Option Value → T → Prop) (u v : Int32) (r : List Value) : vc xs zH_83 (n + 1) b d 83 66 ml (.int v :: .int u :: r) t Q = (¬ v = 0 ∧ vc xs zH_83 n true d 83 67 ml (.int (u - u / v * v) :: r) t Q) := by
  rw [vc_q (o := (15, 0, 0, 0, [])) (by decide +kernel)]; rfl
theorem v_83_67 (xs : Option (List Int32)) (n : Nat) (b : Bool) (d : Nat) (ml : List Value) (t : T) (Q : Option Value → T → Prop) (st : List Value) : vc xs zH_83 (n + 1) b d 83 67 ml st t Q = (st.all zc1 = true ∧ vtk 5 st [] (fun as rest => rest.length ≤ 8 ∧ vrc as 12 (twc d 82 as t (fun r t' => vc xs zH_83 n true d 83 70 ml (r.toList ++ rest) t' Q)))) := by
  rw [vc_q (o := (36, 0, 82, 4, [(0, 12)])) (by decide +kernel)]; rfl
theorem v_83_70 (xs : Option (List Int32)) (n : Nat) (b : Bool) (d : Nat) (ml : List Value) (t : T) (Q : Option Value → T → Prop) (v : Int32) (r : List Value) : vc xs zH_83 (n + 1) b d 83 70 ml (.int v :: r) t Q = vset ml 5 (.int v) (fun l => vc xs zH_83 n true d 83 72 l r t Q) := by
  rw [vc_q (o := (3, 0, 5, 1, [])) (by decide +kernel)]; rfl
theorem v_83_72 (xs : Option (List Int32)) (n : Nat) (b : Bool) (d : Nat) (ml : List Value) (t : T) (Q : Option Value → T → Prop) (st : List Value) : vc xs zH_83 (n + 1) b d 83 72 ml st t Q = vgi ml 5 (fun v => vc xs zH_83 n true d 83 74 ml (.int v :: st) t Q) := by
  rw [vc_q (o := (1, 0, 5, 1, [])) (by decide +kernel)]; rfl
theorem v_83_74 (xs : Option (List Int32)) (n : Nat) (b : Bool) (d : Nat) (ml : List Value) (t : T) (Q : Option Value → T → Prop) (u : Int32) (r : List Value) : vc xs zH_83 (n + 1) b d 83 74 ml (.int u :: r) t Q = (if u < 0 then vc xs zH_83 n true d 83 77 ml r t Q else vc xs zH_83 n true d 83 79 ml r t Q) := by
  rw [vc_q (o := (21, 0, 79, 3, [])) (by decide +kernel)]; rfl
theorem v_83_77 (xs : Option (List Int32)) (n : Nat) (b : Bool) (d : Nat) (ml : List Value) (t : T) (Q : Option Value → T → Prop) (st : List Value) : vc xs zH_83 (n + 1) b d 83 77 ml st t Q = vc xs zH_83 n true d 83 78 ml (.int 0 :: st) t Q := by
  rw [vc_q (o := (0, 0, 0, 0, [])) (by decide +kernel)]; rfl
theorem v_83_78 (xs : Option (List Int32)) (n : Nat) (b : Bool) (d : Nat) (ml : List Value) (t : T) (Q : Option Value → T → Prop) (v : Int32) : vc xs zH_83 (n + 1) b d 83 78 ml [.int v] t Q = ((v = 0 ∨ v = 1) ∧ Q (some (.int v)) t) := by
  rw [vc_q (o := (41, 0, 0, 0, [])) (by decide +kernel)]; rfl
theorem v_83_79 (xs : Option (List Int32)) (n : Nat) (b : Bool) (d : Nat) (ml : List Value) (t : T) (Q : Option Value → T → Prop) (st : List Value) : vc xs zH_83 (n + 1) b d 83 79 ml st t Q = vgi ml 2 (fun v => vc xs zH_83 n true d 83 80 ml (.int v :: st) t Q) := by
  rw [vc_q (o := (1, 0, 2, 0, [])) (by decide +kernel)]; rfl
theorem v_83_80 (xs : Option (List Int32)) (n : Nat) (b : Bool) (d : Nat) (ml : List Value) (t : T) (Q : Option Value → T → Prop) (u : Int32) (r : List Value) : vc xs zH_83 (n + 1) b d 83 80 ml (.int u :: r) t Q = (if u = 0 then vc xs zH_83 n true d 83 83 ml r t Q else vc xs zH_83 n true d 83 88 ml r t Q) := by
  rw [vc_q (o := (21, 0, 88, 1, [])) (by decide +kernel)]; rfl
theorem v_83_83 (xs : Option (List Int32)) (n : Nat) (b : Bool) (d : Nat) (ml : List Value) (t : T) (Q : Option Value → T → Prop) (st : List Value) : vc xs zH_83 (n + 1) b d 83 83 ml st t Q = vgi ml 5 (fun v => vc xs zH_83 n true d 83 85 ml (.int v :: st) t Q) := by
  rw [vc_q (o := (1, 0, 5, 1, [])) (by decide +kernel)]; rfl
theorem v_83_85 (xs : Option (List Int32)) (n : Nat) (b : Bool) (d : Nat) (ml : List Value) (t : T) (Q : Option Value → T → Prop) (u : Int32) (r : List Value) : vc xs zH_83 (n + 1) b d 83 85 ml (.int u :: r) t Q = (if 0 < u then vc xs zH_83 n true d 83 88 ml r t Q else vc xs zH_83 n true d 83 92 ml r t Q) := by
  rw [vc_q (o := (21, 0, 92, 5, [])) (by decide +kernel)]; rfl
theorem v_83_88 (xs : Option (List Int32)) (n : Nat) (b : Bool) (d : Nat) (ml : List Value) (t : T) (Q : Option Value → T → Prop) (st : List Value) : vc xs zH_83 (n + 1) b d 83 88 ml st t Q = vc xs zH_83 n true d 83 89 ml (.int 1 :: st) t Q := by
  rw [vc_q (o := (0, 1, 0, 0, [])) (by decide +kernel)]; rfl
theorem v_83_89 (xs : Option (List Int32)) (n : Nat) (b : Bool) (d : Nat) (ml : List Value) (t : T) (Q : Option Value → T → Prop) (st : List Value) : vc xs zH_83 (n + 1) b d 83 89 ml st t Q = vc xs zH_83 n true d 83 93 ml st t Q := by
  rw [vc_q (o := (22, 0, 93, 0, [])) (by decide +kernel)]; rfl
theorem v_83_92 (xs : Option (List Int32)) (n : Nat) (b : Bool) (d : Nat) (ml : List Value) (t : T) (Q : Option Value → T → Prop) (st : List Value) : vc xs zH_83 (n + 1) b d 83 92 ml st t Q = vc xs zH_83 n true d 83 93 ml (.int 0 :: st) t Q := by
  rw [vc_q (o := (0, 0, 0, 0, [])) (by decide +kernel)]; rfl
theorem v_83_93 (xs : Option (List Int32)) (n : Nat) (b : Bool) (d : Nat) (ml : List Value) (t : T) (Q : Option Value → T → Prop) (v : Int32) (r : List Value) : vc xs zH_83 (n + 1) b d 83 93 ml (.int v :: r) t Q = vset ml 2 (.int v) (fun l => vc xs zH_83 n true d 83 94 l r t Q) := by
  rw [vc_q (o := (3, 0, 2, 0, [])) (by decide +kernel)]; rfl
theorem v_83_94 (xs : Option (List Int32)) (n : Nat) (b : Bool) (d : Nat) (ml : List Value) (t : T) (Q : Option Value → T → Prop) (st : List Value) : vc xs zH_83 (n + 1) b d 83 94 ml st t Q = vgi ml 4 (fun v => vset ml 4 (.int (v + 1)) (fun l => vc xs zH_83 n true d 83 97 l st t Q)) := by
  rw [vc_q (o := (5, 1, 4, 0, [])) (by decide +kernel)]; rfl
theorem v_83_97 (xs : Option (List Int32)) (n : Nat) (b : Bool) (d : Nat) (ml : List Value) (t : T) (Q : Option Value → T → Prop) (st : List Value) : vc xs zH_83 (n + 1) b d 83 97 ml st t Q = vc xs zH_83 n true d 83 21 ml st t Q := by
  rw [vc_q (o := (22, 0, 21, 0, [])) (by decide +kernel)]; rfl
theorem v_83_100 (xs : Option (List Int32)) (n : Nat) (b : Bool) (d : Nat) (ml : List Value) (t : T) (Q : Option Value → T → Prop) (st : List Value) : vc xs zH_83 (n + 1) b d 83 100 ml st t Q = vgi ml 3 (fun v => vset ml 3 (.int (v + 1)) (fun l => vc xs zH_83 n true d 83 103 l st t Q)) := by
  rw [vc_q (o := (5, 1, 3, 0, [])) (by decide +kernel)]; rfl
theorem v_83_103 (xs : Option (List Int32)) (n : Nat) (b : Bool) (d : Nat) (ml : List Value) (t : T) (Q : Option Value → T → Prop) (st : List Value) : vc xs zH_83 (n + 1) b d 83 103 ml st t Q = vc xs zH_83 n true d 83 10 ml st t Q := by
  rw [vc_q (o := (22, 0, 10, 0, [])) (by decide +kernel)]; rfl
theorem v_83_106 (xs : Option (List Int32)) (n : Nat) (b : Bool) (d : Nat) (ml : List Value) (t : T) (Q : Option Value → T → Prop) (st : List Value) : vc xs zH_83 (n + 1) b d 83 106 ml st t Q = vc xs zH_83 n true d 83 2 ml st t Q := by
  rw [vc_q (o := (22, 0, 2, 0, [])) (by decide +kernel)]; rfl
theorem v_83_109 (xs : Option (List Int32)) (n : Nat) (b : Bool) (d : Nat) (ml : List Value) (t : T) (Q : Option Value → T → Prop) (st : List Value) : vc xs zH_83 (n + 1) b d 83 109 ml st t Q = vc xs zH_83 n true d 83 110 ml (.int 1 :: st) t Q := by
  rw [vc_q (o := (0, 1, 0, 0, [])) (by decide +kernel)]; rfl
theorem v_83_110 (xs : Option (List Int32)) (n : Nat) (b : Bool) (d : Nat) (ml : List Value) (t : T) (Q : Option Value → T → Prop) (v : Int32) : vc xs zH_83 (n + 1) b d 83 110 ml [.int v] t Q = ((v = 0 ∨ v = 1) ∧ Q (some (.int v)) t) := by
  rw [vc_q (o := (41, 0, 0, 0, [])) (by decide +kernel)]; rfl
def zH_84 : List Nat := []
theorem v_84_0 (xs : Option (List Int32)) (n : Nat) (b : Bool) (d : Nat) (ml : List Value) (t : T) (Q : Option Value → T → Prop) (st : List Value) : vc xs zH_84 (n + 1) b d 84 0 ml st t Q = vga ml 0 (fun v => vc xs zH_84 n true d 84 1 ml (.ref v :: st) t Q) := by
  rw [vc_q (o := (2, 0, 0, 0, [])) (by decide +kernel)]; rfl
theorem v_84_1 (xs : Option (List Int32)) (n : Nat) (b : Bool) (d : Nat) (ml : List Value) (t : T) (Q : Option Value → T → Prop) (st : List Value) : vc xs zH_84 (n + 1) b d 84 1 ml st t Q = vgi ml 1 (fun v => vc xs zH_84 n true d 84 2 ml (.int v :: st) t Q) := by
  rw [vc_q (o := (1, 0, 1, 0, [])) (by decide +kernel)]; rfl
theorem v_84_2 (xs : Option (List Int32)) (n : Nat) (b : Bool) (d : Nat) (ml : List Value) (t : T) (Q : Option Value → T → Prop) (st : List Value) : vc xs zH_84 (n + 1) b d 84 2 ml st t Q = (st.all zc1 = true ∧ vtk 2 st [] (fun as rest => rest.length ≤ 8 ∧ vrc as 12 (twc d 55 as t (fun r t' => vc xs zH_84 n true d 84 5 ml (r.toList ++ rest) t' Q)))) := by
  rw [vc_q (o := (36, 0, 55, 1, [(0, 12)])) (by decide +kernel)]; rfl
theorem v_84_5 (xs : Option (List Int32)) (n : Nat) (b : Bool) (d : Nat) (ml : List Value) (t : T) (Q : Option Value → T → Prop) (u : Int32) (r : List Value) : vc xs zH_84 (n + 1) b d 84 5 ml (.int u :: r) t Q = (if u = 0 then vc xs zH_84 n true d 84 37 ml r t Q else vc xs zH_84 n true d 84 8 ml r t Q) := by
  rw [vc_q (o := (21, 0, 37, 0, [])) (by decide +kernel)]; rfl
theorem v_84_8 (xs : Option (List Int32)) (n : Nat) (b : Bool) (d : Nat) (ml : List Value) (t : T) (Q : Option Value → T → Prop) (st : List Value) : vc xs zH_84 (n + 1) b d 84 8 ml st t Q = vga ml 0 (fun v => vc xs zH_84 n true d 84 9 ml (.ref v :: st) t Q) := by
  rw [vc_q (o := (2, 0, 0, 0, [])) (by decide +kernel)]; rfl
theorem v_84_9 (xs : Option (List Int32)) (n : Nat) (b : Bool) (d : Nat) (ml : List Value) (t : T) (Q : Option Value → T → Prop) (u : Nat) (r : List Value) : vc xs zH_84 (n + 1) b d 84 9 ml (.ref u :: r) t Q = (vtag u = 12 ∧ vc xs zH_84 n true d 84 12 ml (.ref (tref t u 8) :: r) t Q) := by
  rw [vc_q (o := (25, 0, 12, 8, [])) (by decide +kernel)]; rfl
theorem v_84_12 (xs : Option (List Int32)) (n : Nat) (b : Bool) (d : Nat) (ml : List Value) (t : T) (Q : Option Value → T → Prop) (st : List Value) : vc xs zH_84 (n + 1) b d 84 12 ml st t Q = vgi ml 1 (fun v => vc xs zH_84 n true d 84 13 ml (.int v :: st) t Q) := by
  rw [vc_q (o := (1, 0, 1, 0, [])) (by decide +kernel)]; rfl
theorem v_84_13 (xs : Option (List Int32)) (n : Nat) (b : Bool) (d : Nat) (ml : List Value) (t : T) (Q : Option Value → T → Prop) (v : Int32) (u : Nat) (r : List Value) : vc xs zH_84 (n + 1) b d 84 13 ml (.int v :: .ref u :: r) t Q = (vtag u = 100 ∧ vinb v (vlen u) ∧ vc xs zH_84 n true d 84 14 ml (.int (t.1 u v.toNatClampNeg) :: r) t Q) := by
  rw [vc_q (o := (29, 0, 0, 0, [])) (by decide +kernel)]; rfl
theorem v_84_14 (xs : Option (List Int32)) (n : Nat) (b : Bool) (d : Nat) (ml : List Value) (t : T) (Q : Option Value → T → Prop) (st : List Value) : vc xs zH_84 (n + 1) b d 84 14 ml st t Q = vc xs zH_84 n true d 84 15 ml (.int 3 :: st) t Q := by
  rw [vc_q (o := (0, 3, 0, 0, [])) (by decide +kernel)]; rfl
theorem v_84_15 (xs : Option (List Int32)) (n : Nat) (b : Bool) (d : Nat) (ml : List Value) (t : T) (Q : Option Value → T → Prop) (u v : Int32) (r : List Value) : vc xs zH_84 (n + 1) b d 84 15 ml (.int v :: .int u :: r) t Q = (if v < u then vc xs zH_84 n true d 84 37 ml r t Q else vc xs zH_84 n true d 84 18 ml r t Q) := by
  rw [vc_q (o := (20, 0, 37, 4, [])) (by decide +kernel)]; rfl
theorem v_84_18 (xs : Option (List Int32)) (n : Nat) (b : Bool) (d : Nat) (ml : List Value) (t : T) (Q : Option Value → T → Prop) (st : List Value) : vc xs zH_84 (n + 1) b d 84 18 ml st t Q = vgi ml 2 (fun v => vc xs zH_84 n true d 84 19 ml (.int v :: st) t Q) := by
  rw [vc_q (o := (1, 0, 2, 0, [])) (by decide +kernel)]; rfl
theorem v_84_19 (xs : Option (List Int32)) (n : Nat) (b : Bool) (d : Nat) (ml : List Value) (t : T) (Q : Option Value → T → Prop) (st : List Value) : vc xs zH_84 (n + 1) b d 84 19 ml st t Q = vc xs zH_84 n true d 84 20 ml (.int 2 :: st) t Q := by
  rw [vc_q (o := (0, 2, 0, 0, [])) (by decide +kernel)]; rfl
theorem v_84_20 (xs : Option (List Int32)) (n : Nat) (b : Bool) (d : Nat) (ml : List Value) (t : T) (Q : Option Value → T → Prop) (st : List Value) : vc xs zH_84 (n + 1) b d 84 20 ml st t Q = vc xs zH_84 n true d 84 22 ml (.int 8 :: st) t Q := by
  rw [vc_q (o := (0, 8, 1, 0, [])) (by decide +kernel)]; rfl
theorem v_84_22 (xs : Option (List Int32)) (n : Nat) (b : Bool) (d : Nat) (ml : List Value) (t : T) (Q : Option Value → T → Prop) (st : List Value) : vc xs zH_84 (n + 1) b d 84 22 ml st t Q = (st.all zc1 = true ∧ vtk 3 st [] (fun as rest => rest.length ≤ 8 ∧ twc d 37 as t (fun r t' => vc xs zH_84 n true d 84 25 ml (r.toList ++ rest) t' Q))) := by
  rw [vc_q (o := (37, 0, 37, 3, [])) (by decide +kernel)]; rfl
theorem v_84_25 (xs : Option (List Int32)) (n : Nat) (b : Bool) (d : Nat) (ml : List Value) (t : T) (Q : Option Value → T → Prop) (u : Int32) (r : List Value) : vc xs zH_84 (n + 1) b d 84 25 ml (.int u :: r) t Q = (if u = 0 then vc xs zH_84 n true d 84 28 ml r t Q else vc xs zH_84 n true d 84 37 ml r t Q) := by
  rw [vc_q (o := (21, 0, 37, 1, [])) (by decide +kernel)]; rfl
theorem v_84_28 (xs : Option (List Int32)) (n : Nat) (b : Bool) (d : Nat) (ml : List Value) (t : T) (Q : Option Value → T → Prop) (st : List Value) : vc xs zH_84 (n + 1) b d 84 28 ml st t Q = vgi ml 3 (fun v => vc xs zH_84 n true d 84 29 ml (.int v :: st) t Q) := by
  rw [vc_q (o := (1, 0, 3, 0, [])) (by decide +kernel)]; rfl
theorem v_84_29 (xs : Option (List Int32)) (n : Nat) (b : Bool) (d : Nat) (ml : List Value) (t : T) (Q : Option Value → T → Prop) (st : List Value) : vc xs zH_84 (n + 1) b d 84 29 ml st t Q = vc xs zH_84 n true d 84 30 ml (.int 0 :: st) t Q := by
  rw [vc_q (o := (0, 0, 0, 0, [])) (by decide +kernel)]; rfl
theorem v_84_30 (xs : Option (List Int32)) (n : Nat) (b : Bool) (d : Nat) (ml : List Value) (t : T) (Q : Option Value → T → Prop) (st : List Value) : vc xs zH_84 (n + 1) b d 84 30 ml st t Q = vc xs zH_84 n true d 84 31 ml (.int 1 :: st) t Q := by
  rw [vc_q (o := (0, 1, 0, 0, [])) (by decide +kernel)]; rfl
theorem v_84_31 (xs : Option (List Int32)) (n : Nat) (b : Bool) (d : Nat) (ml : List Value) (t : T) (Q : Option Value → T → Prop) (st : List Value) : vc xs zH_84 (n + 1) b d 84 31 ml st t Q = (st.all zc1 = true ∧ vtk 3 st [] (fun as rest => rest.length ≤ 8 ∧ twc d 37 as t (fun r t' => vc xs zH_84 n true d 84 34 ml (r.toList ++ rest) t' Q))) := by
  rw [vc_q (o := (37, 0, 37, 3, [])) (by decide +kernel)]; rfl
theorem v_84_34 (xs : Option (List Int32)) (n : Nat) (b : Bool) (d : Nat) (ml : List Value) (t : T) (Q : Option Value → T → Prop) (u : Int32) (r : List Value) : vc xs zH_84 (n + 1) b d 84 34 ml (.int u :: r) t Q = (if u = 0 then vc xs zH_84 n true d 84 39 ml r t Q else vc xs zH_84 n true d 84 37 ml r t Q) := by
  rw [vc_q (o := (21, 0, 39, 0, [])) (by decide +kernel)]; rfl
theorem v_84_37 (xs : Option (List Int32)) (n : Nat) (b : Bool) (d : Nat) (ml : List Value) (t : T) (Q : Option Value → T → Prop) (st : List Value) : vc xs zH_84 (n + 1) b d 84 37 ml st t Q = vc xs zH_84 n true d 84 38 ml (.int (-1) :: st) t Q := by
  rw [vc_q (o := (0, (-1), 0, 0, [])) (by decide +kernel)]; rfl
theorem v_84_38 (xs : Option (List Int32)) (n : Nat) (b : Bool) (d : Nat) (ml : List Value) (t : T) (Q : Option Value → T → Prop) (v : Int32) : vc xs zH_84 (n + 1) b d 84 38 ml [.int v] t Q = Q (some (.int v)) t := by
  rw [vc_q (o := (40, 0, 0, 0, [])) (by decide +kernel)]; rfl
theorem v_84_39 (xs : Option (List Int32)) (n : Nat) (b : Bool) (d : Nat) (ml : List Value) (t : T) (Q : Option Value → T → Prop) (st : List Value) : vc xs zH_84 (n + 1) b d 84 39 ml st t Q = vga ml 0 (fun v => vc xs zH_84 n true d 84 40 ml (.ref v :: st) t Q) := by
  rw [vc_q (o := (2, 0, 0, 0, [])) (by decide +kernel)]; rfl
theorem v_84_40 (xs : Option (List Int32)) (n : Nat) (b : Bool) (d : Nat) (ml : List Value) (t : T) (Q : Option Value → T → Prop) (u : Nat) (r : List Value) : vc xs zH_84 (n + 1) b d 84 40 ml (.ref u :: r) t Q = (vtag u = 12 ∧ vc xs zH_84 n true d 84 43 ml (.int (t.1 u 10) :: r) t Q) := by
  rw [vc_q (o := (24, 0, 12, 10, [])) (by decide +kernel)]; rfl
theorem v_84_43 (xs : Option (List Int32)) (n : Nat) (b : Bool) (d : Nat) (ml : List Value) (t : T) (Q : Option Value → T → Prop) (st : List Value) : vc xs zH_84 (n + 1) b d 84 43 ml st t Q = vc xs zH_84 n true d 84 45 ml (.int 6 :: st) t Q := by
  rw [vc_q (o := (0, 6, 1, 0, [])) (by decide +kernel)]; rfl
theorem v_84_45 (xs : Option (List Int32)) (n : Nat) (b : Bool) (d : Nat) (ml : List Value) (t : T) (Q : Option Value → T → Prop) (u v : Int32) (r : List Value) : vc xs zH_84 (n + 1) b d 84 45 ml (.int v :: .int u :: r) t Q = (if u = v then vc xs zH_84 n true d 84 48 ml r t Q else vc xs zH_84 n true d 84 51 ml r t Q) := by
  rw [vc_q (o := (20, 0, 51, 1, [])) (by decide +kernel)]; rfl
theorem v_84_48 (xs : Option (List Int32)) (n : Nat) (b : Bool) (d : Nat) (ml : List Value) (t : T) (Q : Option Value → T → Prop) (st : List Value) : vc xs zH_84 (n + 1) b d 84 48 ml st t Q = vc xs zH_84 n true d 84 50 ml (.int (-2) :: st) t Q := by
  rw [vc_q (o := (0, (-2), 1, 0, [])) (by decide +kernel)]; rfl
theorem v_84_50 (xs : Option (List Int32)) (n : Nat) (b : Bool) (d : Nat) (ml : List Value) (t : T) (Q : Option Value → T → Prop) (v : Int32) : vc xs zH_84 (n + 1) b d 84 50 ml [.int v] t Q = Q (some (.int v)) t := by
  rw [vc_q (o := (40, 0, 0, 0, [])) (by decide +kernel)]; rfl
theorem v_84_51 (xs : Option (List Int32)) (n : Nat) (b : Bool) (d : Nat) (ml : List Value) (t : T) (Q : Option Value → T → Prop) (st : List Value) : vc xs zH_84 (n + 1) b d 84 51 ml st t Q = vga ml 0 (fun v => vc xs zH_84 n true d 84 52 ml (.ref v :: st) t Q) := by
  rw [vc_q (o := (2, 0, 0, 0, [])) (by decide +kernel)]; rfl
theorem v_84_52 (xs : Option (List Int32)) (n : Nat) (b : Bool) (d : Nat) (ml : List Value) (t : T) (Q : Option Value → T → Prop) (u : Nat) (r : List Value) : vc xs zH_84 (n + 1) b d 84 52 ml (.ref u :: r) t Q = (vtag u = 12 ∧ vc xs zH_84 n true d 84 55 ml (.ref (tref t u 11) :: r) t Q) := by
  rw [vc_q (o := (25, 0, 12, 11, [])) (by decide +kernel)]; rfl
theorem v_84_55 (xs : Option (List Int32)) (n : Nat) (b : Bool) (d : Nat) (ml : List Value) (t : T) (Q : Option Value → T → Prop) (st : List Value) : vc xs zH_84 (n + 1) b d 84 55 ml st t Q = vga ml 0 (fun v => vc xs zH_84 n true d 84 56 ml (.ref v :: st) t Q) := by
  rw [vc_q (o := (2, 0, 0, 0, [])) (by decide +kernel)]; rfl
theorem v_84_56 (xs : Option (List Int32)) (n : Nat) (b : Bool) (d : Nat) (ml : List Value) (t : T) (Q : Option Value → T → Prop) (u : Nat) (r : List Value) : vc xs zH_84 (n + 1) b d 84 56 ml (.ref u :: r) t Q = (vtag u = 12 ∧ vc xs zH_84 n true d 84 59 ml (.int (t.1 u 10) :: r) t Q) := by
  rw [vc_q (o := (24, 0, 12, 10, [])) (by decide +kernel)]; rfl
theorem v_84_59 (xs : Option (List Int32)) (n : Nat) (b : Bool) (d : Nat) (ml : List Value) (t : T) (Q : Option Value → T → Prop) (st : List Value) : vc xs zH_84 (n + 1) b d 84 59 ml st t Q = vgi ml 1 (fun v => vc xs zH_84 n true d 84 60 ml (.int v :: st) t Q) := by
  rw [vc_q (o := (1, 0, 1, 0, [])) (by decide +kernel)]; rfl
theorem v_84_60 (xs : Option (List Int32)) (n : Nat) (b : Bool) (d : Nat) (ml : List Value) (t : T) (Q : Option Value → T → Prop) (w v : Int32) (u : Nat) (r : List Value) : vc xs zH_84 (n + 1) b d 84 60 ml (.int w :: .int v :: .ref u :: r) t Q = (vtag u = 100 ∧ vinb v (vlen u) ∧ vc xs zH_84 n true d 84 61 ml r (tsi t u v.toNatClampNeg w) Q) := by
  rw [vc_q (o := (32, 0, 0, 0, [])) (by decide +kernel)]; rfl
theorem v_84_61 (xs : Option (List Int32)) (n : Nat) (b : Bool) (d : Nat) (ml : List Value) (t : T) (Q : Option Value → T → Prop) (st : List Value) : vc xs zH_84 (n + 1) b d 84 61 ml st t Q = vga ml 0 (fun v => vc xs zH_84 n true d 84 62 ml (.ref v :: st) t Q) := by
  rw [vc_q (o := (2, 0, 0, 0, [])) (by decide +kernel)]; rfl
theorem v_84_62 (xs : Option (List Int32)) (n : Nat) (b : Bool) (d : Nat) (ml : List Value) (t : T) (Q : Option Value → T → Prop) (u : Nat) (r : List Value) : vc xs zH_84 (n + 1) b d 84 62 ml (.ref u :: r) t Q = (vtag u = 12 ∧ vc xs zH_84 n true d 84 65 ml (.ref (tref t u 12) :: r) t Q) := by
  rw [vc_q (o := (25, 0, 12, 12, [])) (by decide +kernel)]; rfl
theorem v_84_65 (xs : Option (List Int32)) (n : Nat) (b : Bool) (d : Nat) (ml : List Value) (t : T) (Q : Option Value → T → Prop) (st : List Value) : vc xs zH_84 (n + 1) b d 84 65 ml st t Q = vga ml 0 (fun v => vc xs zH_84 n true d 84 66 ml (.ref v :: st) t Q) := by
  rw [vc_q (o := (2, 0, 0, 0, [])) (by decide +kernel)]; rfl
theorem v_84_66 (xs : Option (List Int32)) (n : Nat) (b : Bool) (d : Nat) (ml : List Value) (t : T) (Q : Option Value → T → Prop) (u : Nat) (r : List Value) : vc xs zH_84 (n + 1) b d 84 66 ml (.ref u :: r) t Q = (vtag u = 12 ∧ vc xs zH_84 n true d 84 69 ml (.int (t.1 u 10) :: r) t Q) := by
  rw [vc_q (o := (24, 0, 12, 10, [])) (by decide +kernel)]; rfl
theorem v_84_69 (xs : Option (List Int32)) (n : Nat) (b : Bool) (d : Nat) (ml : List Value) (t : T) (Q : Option Value → T → Prop) (st : List Value) : vc xs zH_84 (n + 1) b d 84 69 ml st t Q = vgi ml 2 (fun v => vc xs zH_84 n true d 84 70 ml (.int v :: st) t Q) := by
  rw [vc_q (o := (1, 0, 2, 0, [])) (by decide +kernel)]; rfl
theorem v_84_70 (xs : Option (List Int32)) (n : Nat) (b : Bool) (d : Nat) (ml : List Value) (t : T) (Q : Option Value → T → Prop) (w v : Int32) (u : Nat) (r : List Value) : vc xs zH_84 (n + 1) b d 84 70 ml (.int w :: .int v :: .ref u :: r) t Q = (vtag u = 100 ∧ vinb v (vlen u) ∧ vc xs zH_84 n true d 84 71 ml r (tsi t u v.toNatClampNeg w) Q) := by
  rw [vc_q (o := (32, 0, 0, 0, [])) (by decide +kernel)]; rfl
theorem v_84_71 (xs : Option (List Int32)) (n : Nat) (b : Bool) (d : Nat) (ml : List Value) (t : T) (Q : Option Value → T → Prop) (st : List Value) : vc xs zH_84 (n + 1) b d 84 71 ml st t Q = vga ml 0 (fun v => vc xs zH_84 n true d 84 72 ml (.ref v :: st) t Q) := by
  rw [vc_q (o := (2, 0, 0, 0, [])) (by decide +kernel)]; rfl
theorem v_84_72 (xs : Option (List Int32)) (n : Nat) (b : Bool) (d : Nat) (ml : List Value) (t : T) (Q : Option Value → T → Prop) (u : Nat) (r : List Value) : vc xs zH_84 (n + 1) b d 84 72 ml (.ref u :: r) t Q = (vtag u = 12 ∧ vc xs zH_84 n true d 84 75 ml (.ref (tref t u 13) :: r) t Q) := by
  rw [vc_q (o := (25, 0, 12, 13, [])) (by decide +kernel)]; rfl
theorem v_84_75 (xs : Option (List Int32)) (n : Nat) (b : Bool) (d : Nat) (ml : List Value) (t : T) (Q : Option Value → T → Prop) (st : List Value) : vc xs zH_84 (n + 1) b d 84 75 ml st t Q = vga ml 0 (fun v => vc xs zH_84 n true d 84 76 ml (.ref v :: st) t Q) := by
  rw [vc_q (o := (2, 0, 0, 0, [])) (by decide +kernel)]; rfl
theorem v_84_76 (xs : Option (List Int32)) (n : Nat) (b : Bool) (d : Nat) (ml : List Value) (t : T) (Q : Option Value → T → Prop) (u : Nat) (r : List Value) : vc xs zH_84 (n + 1) b d 84 76 ml (.ref u :: r) t Q = (vtag u = 12 ∧ vc xs zH_84 n true d 84 79 ml (.int (t.1 u 10) :: r) t Q) := by
  rw [vc_q (o := (24, 0, 12, 10, [])) (by decide +kernel)]; rfl
theorem v_84_79 (xs : Option (List Int32)) (n : Nat) (b : Bool) (d : Nat) (ml : List Value) (t : T) (Q : Option Value → T → Prop) (st : List Value) : vc xs zH_84 (n + 1) b d 84 79 ml st t Q = vgi ml 3 (fun v => vc xs zH_84 n true d 84 80 ml (.int v :: st) t Q) := by
  rw [vc_q (o := (1, 0, 3, 0, [])) (by decide +kernel)]; rfl
theorem v_84_80 (xs : Option (List Int32)) (n : Nat) (b : Bool) (d : Nat) (ml : List Value) (t : T) (Q : Option Value → T → Prop) (w v : Int32) (u : Nat) (r : List Value) : vc xs zH_84 (n + 1) b d 84 80 ml (.int w :: .int v :: .ref u :: r) t Q = (vtag u = 100 ∧ vinb v (vlen u) ∧ vc xs zH_84 n true d 84 81 ml r (tsi t u v.toNatClampNeg w) Q) := by
  rw [vc_q (o := (32, 0, 0, 0, [])) (by decide +kernel)]; rfl
theorem v_84_81 (xs : Option (List Int32)) (n : Nat) (b : Bool) (d : Nat) (ml : List Value) (t : T) (Q : Option Value → T → Prop) (st : List Value) : vc xs zH_84 (n + 1) b d 84 81 ml st t Q = vga ml 0 (fun v => vc xs zH_84 n true d 84 82 ml (.ref v :: st) t Q) := by
  rw [vc_q (o := (2, 0, 0, 0, [])) (by decide +kernel)]; rfl
theorem v_84_82_int (xs : Option (List Int32)) (n : Nat) (b : Bool) (d : Nat) (ml : List Value) (t : T) (Q : Option Value → T → Prop) (v : Int32) (r : List Value) : vc xs zH_84 (n + 1) b d 84 82 ml (.int v :: r) t Q = vc xs zH_84 n true d 84 83 ml (.int v :: .int v :: r) t Q := by
  rw [vc_q (o := (17, 0, 0, 0, [])) (by decide +kernel)]; rfl
theorem v_84_82_ref (xs : Option (List Int32)) (n : Nat) (b : Bool) (d : Nat) (ml : List Value) (t : T) (Q : Option Value → T → Prop) (v : Nat) (r : List Value) : vc xs zH_84 (n + 1) b d 84 82 ml (.ref v :: r) t Q = vc xs zH_84 n true d 84 83 ml (.ref v :: .ref v :: r) t Q := by
  rw [vc_q (o := (17, 0, 0, 0, [])) (by decide +kernel)]; rfl
theorem v_84_83 (xs : Option (List Int32)) (n : Nat) (b : Bool) (d : Nat) (ml : List Value) (t : T) (Q : Option Value → T → Prop) (u : Nat) (r : List Value) : vc xs zH_84 (n + 1) b d 84 83 ml (.ref u :: r) t Q = (vtag u = 12 ∧ vc xs zH_84 n true d 84 86 ml (.int (t.1 u 10) :: r) t Q) := by
  rw [vc_q (o := (24, 0, 12, 10, [])) (by decide +kernel)]; rfl
theorem v_84_86 (xs : Option (List Int32)) (n : Nat) (b : Bool) (d : Nat) (ml : List Value) (t : T) (Q : Option Value → T → Prop) (st : List Value) : vc xs zH_84 (n + 1) b d 84 86 ml st t Q = vc xs zH_84 n true d 84 87 ml (.int 1 :: st) t Q := by
  rw [vc_q (o := (0, 1, 0, 0, [])) (by decide +kernel)]; rfl
theorem v_84_87 (xs : Option (List Int32)) (n : Nat) (b : Bool) (d : Nat) (ml : List Value) (t : T) (Q : Option Value → T → Prop) (u v : Int32) (r : List Value) : vc xs zH_84 (n + 1) b d 84 87 ml (.int v :: .int u :: r) t Q = vc xs zH_84 n true d 84 88 ml (.int (u + v) :: r) t Q := by
  rw [vc_q (o := (6, 0, 0, 0, [])) (by decide +kernel)]; rfl
theorem v_84_88 (xs : Option (List Int32)) (n : Nat) (b : Bool) (d : Nat) (ml : List Value) (t : T) (Q : Option Value → T → Prop) (v : Int32) (u : Nat) (r : List Value) : vc xs zH_84 (n + 1) b d 84 88 ml (.int v :: .ref u :: r) t Q = (vtag u = 12 ∧ vc xs zH_84 n true d 84 91 ml r (tsi t u 10 v) Q) := by
  rw [vc_q (o := (26, 0, 12, 10, [])) (by decide +kernel)]; rfl
theorem v_84_91 (xs : Option (List Int32)) (n : Nat) (b : Bool) (d : Nat) (ml : List Value) (t : T) (Q : Option Value → T → Prop) (st : List Value) : vc xs zH_84 (n + 1) b d 84 91 ml st t Q = vga ml 0 (fun v => vc xs zH_84 n true d 84 92 ml (.ref v :: st) t Q) := by
  rw [vc_q (o := (2, 0, 0, 0, [])) (by decide +kernel)]; rfl
theorem v_84_92 (xs : Option (List Int32)) (n : Nat) (b : Bool) (d : Nat) (ml : List Value) (t : T) (Q : Option Value → T → Prop) (u : Nat) (r : List Value) : vc xs zH_84 (n + 1) b d 84 92 ml (.ref u :: r) t Q = (vtag u = 12 ∧ vc xs zH_84 n true d 84 95 ml (.int (t.1 u 10) :: r) t Q) := by
  rw [vc_q (o := (24, 0, 12, 10, [])) (by decide +kernel)]; rfl
theorem v_84_95 (xs : Option (List Int32)) (n : Nat) (b : Bool) (d : Nat) (ml : List Value) (t : T) (Q : Option Value → T → Prop) (v : Int32) : vc xs zH_84 (n + 1) b d 84 95 ml [.int v] t Q = Q (some (.int v)) t := by
  rw [vc_q (o := (40, 0, 0, 0, [])) (by decide +kernel)]; rfl
def zH_85 : List Nat := []
theorem v_85_0 (xs : Option (List Int32)) (n : Nat) (b : Bool) (d : Nat) (ml : List Value) (t : T) (Q : Option Value → T → Prop) (st : List Value) : vc xs zH_85 (n + 1) b d 85 0 ml st t Q = vgi ml 1 (fun v => vc xs zH_85 n true d 85 1 ml (.int v :: st) t Q) := by
  rw [vc_q (o := (1, 0, 1, 0, [])) (by decide +kernel)]; rfl
theorem v_85_1 (xs : Option (List Int32)) (n : Nat) (b : Bool) (d : Nat) (ml : List Value) (t : T) (Q : Option Value → T → Prop) (st : List Value) : vc xs zH_85 (n + 1) b d 85 1 ml st t Q = (st.all zc1 = true ∧ vtk 1 st [] (fun as rest => rest.length ≤ 8 ∧ twc d 47 as t (fun r t' => vc xs zH_85 n true d 85 4 ml (r.toList ++ rest) t' Q))) := by
  rw [vc_q (o := (37, 0, 47, 1, [])) (by decide +kernel)]; rfl
theorem v_85_4 (xs : Option (List Int32)) (n : Nat) (b : Bool) (d : Nat) (ml : List Value) (t : T) (Q : Option Value → T → Prop) (u : Int32) (r : List Value) : vc xs zH_85 (n + 1) b d 85 4 ml (.int u :: r) t Q = (if u = 0 then vc xs zH_85 n true d 85 7 ml r t Q else vc xs zH_85 n true d 85 9 ml r t Q) := by
  rw [vc_q (o := (21, 0, 9, 1, [])) (by decide +kernel)]; rfl
theorem v_85_7 (xs : Option (List Int32)) (n : Nat) (b : Bool) (d : Nat) (ml : List Value) (t : T) (Q : Option Value → T → Prop) (st : List Value) : vc xs zH_85 (n + 1) b d 85 7 ml st t Q = vc xs zH_85 n true d 85 8 ml (.int 0 :: st) t Q := by
  rw [vc_q (o := (0, 0, 0, 0, [])) (by decide +kernel)]; rfl
theorem v_85_8 (xs : Option (List Int32)) (n : Nat) (b : Bool) (d : Nat) (ml : List Value) (t : T) (Q : Option Value → T → Prop) (v : Int32) : vc xs zH_85 (n + 1) b d 85 8 ml [.int v] t Q = ((v = 0 ∨ v = 1) ∧ Q (some (.int v)) t) := by
  rw [vc_q (o := (41, 0, 0, 0, [])) (by decide +kernel)]; rfl
theorem v_85_9 (xs : Option (List Int32)) (n : Nat) (b : Bool) (d : Nat) (ml : List Value) (t : T) (Q : Option Value → T → Prop) (st : List Value) : vc xs zH_85 (n + 1) b d 85 9 ml st t Q = vga ml 0 (fun v => vc xs zH_85 n true d 85 10 ml (.ref v :: st) t Q) := by
  rw [vc_q (o := (2, 0, 0, 0, [])) (by decide +kernel)]; rfl
theorem v_85_10 (xs : Option (List Int32)) (n : Nat) (b : Bool) (d : Nat) (ml : List Value) (t : T) (Q : Option Value → T → Prop) (st : List Value) : vc xs zH_85 (n + 1) b d 85 10 ml st t Q = vgi ml 1 (fun v => vc xs zH_85 n true d 85 11 ml (.int v :: st) t Q) := by
  rw [vc_q (o := (1, 0, 1, 0, [])) (by decide +kernel)]; rfl
theorem v_85_11 (xs : Option (List Int32)) (n : Nat) (b : Bool) (d : Nat) (ml : List Value) (t : T) (Q : Option Value → T → Prop) (st : List Value) : vc xs zH_85 (n + 1) b d 85 11 ml st t Q = vc xs zH_85 n true d 85 14 ml (.int 183 :: st) t Q := by
  rw [vc_q (o := (0, 183, 2, 0, [])) (by decide +kernel)]; rfl
theorem v_85_14 (xs : Option (List Int32)) (n : Nat) (b : Bool) (d : Nat) (ml : List Value) (t : T) (Q : Option Value → T → Prop) (st : List Value) : vc xs zH_85 (n + 1) b d 85 14 ml st t Q = (st.all zc1 = true ∧ vtk 3 st [] (fun as rest => rest.length ≤ 8 ∧ vrc as 12 (twc d 44 as t (fun r t' => vc xs zH_85 n true d 85 17 ml (r.toList ++ rest) t' Q)))) := by
  rw [vc_q (o := (36, 0, 44, 2, [(0, 12)])) (by decide +kernel)]; rfl
theorem v_85_17 (xs : Option (List Int32)) (n : Nat) (b : Bool) (d : Nat) (ml : List Value) (t : T) (Q : Option Value → T → Prop) (st : List Value) : vc xs zH_85 (n + 1) b d 85 17 ml st t Q = vga ml 0 (fun v => vc xs zH_85 n true d 85 18 ml (.ref v :: st) t Q) := by
  rw [vc_q (o := (2, 0, 0, 0, [])) (by decide +kernel)]; rfl
theorem v_85_18 (xs : Option (List Int32)) (n : Nat) (b : Bool) (d : Nat) (ml : List Value) (t : T) (Q : Option Value → T → Prop) (st : List Value) : vc xs zH_85 (n + 1) b d 85 18 ml st t Q = vc xs zH_85 n true d 85 21 ml (.int 183 :: st) t Q := by
  rw [vc_q (o := (0, 183, 2, 0, [])) (by decide +kernel)]; rfl
theorem v_85_21 (xs : Option (List Int32)) (n : Nat) (b : Bool) (d : Nat) (ml : List Value) (t : T) (Q : Option Value → T → Prop) (st : List Value) : vc xs zH_85 (n + 1) b d 85 21 ml st t Q = (st.all zc1 = true ∧ vtk 2 st [] (fun as rest => rest.length ≤ 8 ∧ vrc as 12 (twc d 83 as t (fun r t' => vc xs zH_85 n true d 85 24 ml (r.toList ++ rest) t' Q)))) := by
  rw [vc_q (o := (36, 0, 83, 1, [(0, 12)])) (by decide +kernel)]; rfl
theorem v_85_24 (xs : Option (List Int32)) (n : Nat) (b : Bool) (d : Nat) (ml : List Value) (t : T) (Q : Option Value → T → Prop) (u : Int32) (r : List Value) : vc xs zH_85 (n + 1) b d 85 24 ml (.int u :: r) t Q = (if u = 0 then vc xs zH_85 n true d 85 27 ml r t Q else vc xs zH_85 n true d 85 29 ml r t Q) := by
  rw [vc_q (o := (21, 0, 29, 1, [])) (by decide +kernel)]; rfl
theorem v_85_27 (xs : Option (List Int32)) (n : Nat) (b : Bool) (d : Nat) (ml : List Value) (t : T) (Q : Option Value → T → Prop) (st : List Value) : vc xs zH_85 (n + 1) b d 85 27 ml st t Q = vc xs zH_85 n true d 85 28 ml (.int 0 :: st) t Q := by
  rw [vc_q (o := (0, 0, 0, 0, [])) (by decide +kernel)]; rfl
theorem v_85_28 (xs : Option (List Int32)) (n : Nat) (b : Bool) (d : Nat) (ml : List Value) (t : T) (Q : Option Value → T → Prop) (v : Int32) : vc xs zH_85 (n + 1) b d 85 28 ml [.int v] t Q = ((v = 0 ∨ v = 1) ∧ Q (some (.int v)) t) := by
  rw [vc_q (o := (41, 0, 0, 0, [])) (by decide +kernel)]; rfl
theorem v_85_29 (xs : Option (List Int32)) (n : Nat) (b : Bool) (d : Nat) (ml : List Value) (t : T) (Q : Option Value → T → Prop) (st : List Value) : vc xs zH_85 (n + 1) b d 85 29 ml st t Q = vga ml 0 (fun v => vc xs zH_85 n true d 85 30 ml (.ref v :: st) t Q) := by
  rw [vc_q (o := (2, 0, 0, 0, [])) (by decide +kernel)]; rfl
theorem v_85_30 (xs : Option (List Int32)) (n : Nat) (b : Bool) (d : Nat) (ml : List Value) (t : T) (Q : Option Value → T → Prop) (st : List Value) : vc xs zH_85 (n + 1) b d 85 30 ml st t Q = vc xs zH_85 n true d 85 33 ml (.int 183 :: st) t Q := by
  rw [vc_q (o := (0, 183, 2, 0, [])) (by decide +kernel)]; rfl
theorem v_85_33 (xs : Option (List Int32)) (n : Nat) (b : Bool) (d : Nat) (ml : List Value) (t : T) (Q : Option Value → T → Prop) (st : List Value) : vc xs zH_85 (n + 1) b d 85 33 ml st t Q = vgi ml 1 (fun v => vc xs zH_85 n true d 85 34 ml (.int v :: st) t Q) := by
  rw [vc_q (o := (1, 0, 1, 0, [])) (by decide +kernel)]; rfl
theorem v_85_34 (xs : Option (List Int32)) (n : Nat) (b : Bool) (d : Nat) (ml : List Value) (t : T) (Q : Option Value → T → Prop) (st : List Value) : vc xs zH_85 (n + 1) b d 85 34 ml st t Q = (st.all zc1 = true ∧ vtk 3 st [] (fun as rest => rest.length ≤ 8 ∧ vrc as 12 (twc d 44 as t (fun r t' => vc xs zH_85 n true d 85 37 ml (r.toList ++ rest) t' Q)))) := by
  rw [vc_q (o := (36, 0, 44, 2, [(0, 12)])) (by decide +kernel)]; rfl
theorem v_85_37 (xs : Option (List Int32)) (n : Nat) (b : Bool) (d : Nat) (ml : List Value) (t : T) (Q : Option Value → T → Prop) (st : List Value) : vc xs zH_85 (n + 1) b d 85 37 ml st t Q = vc xs zH_85 n true d 85 38 ml (.int 1 :: st) t Q := by
  rw [vc_q (o := (0, 1, 0, 0, [])) (by decide +kernel)]; rfl
theorem v_85_38 (xs : Option (List Int32)) (n : Nat) (b : Bool) (d : Nat) (ml : List Value) (t : T) (Q : Option Value → T → Prop) (v : Int32) : vc xs zH_85 (n + 1) b d 85 38 ml [.int v] t Q = ((v = 0 ∨ v = 1) ∧ Q (some (.int v)) t) := by
  rw [vc_q (o := (41, 0, 0, 0, [])) (by decide +kernel)]; rfl
def zH_86 : List Nat := []
theorem v_86_0 (xs : Option (List Int32)) (n : Nat) (b : Bool) (d : Nat) (ml : List Value) (t : T) (Q : Option Value → T → Prop) (st : List Value) : vc xs zH_86 (n + 1) b d 86 0 ml st t Q = vgi ml 1 (fun v => vc xs zH_86 n true d 86 1 ml (.int v :: st) t Q) := by
  rw [vc_q (o := (1, 0, 1, 0, [])) (by decide +kernel)]; rfl
theorem v_86_1 (xs : Option (List Int32)) (n : Nat) (b : Bool) (d : Nat) (ml : List Value) (t : T) (Q : Option Value → T → Prop) (st : List Value) : vc xs zH_86 (n + 1) b d 86 1 ml st t Q = vc xs zH_86 n true d 86 2 ml (.int 0 :: st) t Q := by
  rw [vc_q (o := (0, 0, 0, 0, [])) (by decide +kernel)]; rfl
theorem v_86_2 (xs : Option (List Int32)) (n : Nat) (b : Bool) (d : Nat) (ml : List Value) (t : T) (Q : Option Value → T → Prop) (st : List Value) : vc xs zH_86 (n + 1) b d 86 2 ml st t Q = vc xs zH_86 n true d 86 3 ml (.int 3 :: st) t Q := by
  rw [vc_q (o := (0, 3, 0, 0, [])) (by decide +kernel)]; rfl
theorem v_86_3 (xs : Option (List Int32)) (n : Nat) (b : Bool) (d : Nat) (ml : List Value) (t : T) (Q : Option Value → T → Prop) (st : List Value) : vc xs zH_86 (n + 1) b d 86 3 ml st t Q = (st.all zc1 = true ∧ vtk 3 st [] (fun as rest => rest.length ≤ 8 ∧ twc d 37 as t (fun r t' => vc xs zH_86 n true d 86 6 ml (r.toList ++ rest) t' Q))) := by
  rw [vc_q (o := (37, 0, 37, 3, [])) (by decide +kernel)]; rfl
theorem v_86_6 (xs : Option (List Int32)) (n : Nat) (b : Bool) (d : Nat) (ml : List Value) (t : T) (Q : Option Value → T → Prop) (u : Int32) (r : List Value) : vc xs zH_86 (n + 1) b d 86 6 ml (.int u :: r) t Q = (if u = 0 then vc xs zH_86 n true d 86 9 ml r t Q else vc xs zH_86 n true d 86 48 ml r t Q) := by
  rw [vc_q (o := (21, 0, 48, 1, [])) (by decide +kernel)]; rfl
theorem v_86_9 (xs : Option (List Int32)) (n : Nat) (b : Bool) (d : Nat) (ml : List Value) (t : T) (Q : Option Value → T → Prop) (st : List Value) : vc xs zH_86 (n + 1) b d 86 9 ml st t Q = vgi ml 2 (fun v => vc xs zH_86 n true d 86 10 ml (.int v :: st) t Q) := by
  rw [vc_q (o := (1, 0, 2, 0, [])) (by decide +kernel)]; rfl
theorem v_86_10 (xs : Option (List Int32)) (n : Nat) (b : Bool) (d : Nat) (ml : List Value) (t : T) (Q : Option Value → T → Prop) (st : List Value) : vc xs zH_86 (n + 1) b d 86 10 ml st t Q = vc xs zH_86 n true d 86 11 ml (.int 0 :: st) t Q := by
  rw [vc_q (o := (0, 0, 0, 0, [])) (by decide +kernel)]; rfl
theorem v_86_11 (xs : Option (List Int32)) (n : Nat) (b : Bool) (d : Nat) (ml : List Value) (t : T) (Q : Option Value → T → Prop) (st : List Value) : vc xs zH_86 (n + 1) b d 86 11 ml st t Q = vc xs zH_86 n true d 86 12 ml (.int 3 :: st) t Q := by
  rw [vc_q (o := (0, 3, 0, 0, [])) (by decide +kernel)]; rfl
theorem v_86_12 (xs : Option (List Int32)) (n : Nat) (b : Bool) (d : Nat) (ml : List Value) (t : T) (Q : Option Value → T → Prop) (st : List Value) : vc xs zH_86 (n + 1) b d 86 12 ml st t Q = (st.all zc1 = true ∧ vtk 3 st [] (fun as rest => rest.length ≤ 8 ∧ twc d 37 as t (fun r t' => vc xs zH_86 n true d 86 15 ml (r.toList ++ rest) t' Q))) := by
  rw [vc_q (o := (37, 0, 37, 3, [])) (by decide +kernel)]; rfl
theorem v_86_15 (xs : Option (List Int32)) (n : Nat) (b : Bool) (d : Nat) (ml : List Value) (t : T) (Q : Option Value → T → Prop) (u : Int32) (r : List Value) : vc xs zH_86 (n + 1) b d 86 15 ml (.int u :: r) t Q = (if u = 0 then vc xs zH_86 n true d 86 18 ml r t Q else vc xs zH_86 n true d 86 48 ml r t Q) := by
  rw [vc_q (o := (21, 0, 48, 1, [])) (by decide +kernel)]; rfl
theorem v_86_18 (xs : Option (List Int32)) (n : Nat) (b : Bool) (d : Nat) (ml : List Value) (t : T) (Q : Option Value → T → Prop) (st : List Value) : vc xs zH_86 (n + 1) b d 86 18 ml st t Q = vgi ml 3 (fun v => vc xs zH_86 n true d 86 19 ml (.int v :: st) t Q) := by
  rw [vc_q (o := (1, 0, 3, 0, [])) (by decide +kernel)]; rfl
theorem v_86_19 (xs : Option (List Int32)) (n : Nat) (b : Bool) (d : Nat) (ml : List Value) (t : T) (Q : Option Value → T → Prop) (st : List Value) : vc xs zH_86 (n + 1) b d 86 19 ml st t Q = vc xs zH_86 n true d 86 20 ml (.int 0 :: st) t Q := by
  rw [vc_q (o := (0, 0, 0, 0, [])) (by decide +kernel)]; rfl
theorem v_86_20 (xs : Option (List Int32)) (n : Nat) (b : Bool) (d : Nat) (ml : List Value) (t : T) (Q : Option Value → T → Prop) (st : List Value) : vc xs zH_86 (n + 1) b d 86 20 ml st t Q = vc xs zH_86 n true d 86 23 ml (.int 511 :: st) t Q := by
  rw [vc_q (o := (0, 511, 2, 0, [])) (by decide +kernel)]; rfl
theorem v_86_23 (xs : Option (List Int32)) (n : Nat) (b : Bool) (d : Nat) (ml : List Value) (t : T) (Q : Option Value → T → Prop) (st : List Value) : vc xs zH_86 (n + 1) b d 86 23 ml st t Q = (st.all zc1 = true ∧ vtk 3 st [] (fun as rest => rest.length ≤ 8 ∧ twc d 37 as t (fun r t' => vc xs zH_86 n true d 86 26 ml (r.toList ++ rest) t' Q))) := by
  rw [vc_q (o := (37, 0, 37, 3, [])) (by decide +kernel)]; rfl
theorem v_86_26 (xs : Option (List Int32)) (n : Nat) (b : Bool) (d : Nat) (ml : List Value) (t : T) (Q : Option Value → T → Prop) (u : Int32) (r : List Value) : vc xs zH_86 (n + 1) b d 86 26 ml (.int u :: r) t Q = (if u = 0 then vc xs zH_86 n true d 86 29 ml r t Q else vc xs zH_86 n true d 86 48 ml r t Q) := by
  rw [vc_q (o := (21, 0, 48, 1, [])) (by decide +kernel)]; rfl
theorem v_86_29 (xs : Option (List Int32)) (n : Nat) (b : Bool) (d : Nat) (ml : List Value) (t : T) (Q : Option Value → T → Prop) (st : List Value) : vc xs zH_86 (n + 1) b d 86 29 ml st t Q = vga ml 0 (fun v => vc xs zH_86 n true d 86 30 ml (.ref v :: st) t Q) := by
  rw [vc_q (o := (2, 0, 0, 0, [])) (by decide +kernel)]; rfl
theorem v_86_30 (xs : Option (List Int32)) (n : Nat) (b : Bool) (d : Nat) (ml : List Value) (t : T) (Q : Option Value → T → Prop) (st : List Value) : vc xs zH_86 (n + 1) b d 86 30 ml st t Q = vgi ml 4 (fun v => vc xs zH_86 n true d 86 32 ml (.int v :: st) t Q) := by
  rw [vc_q (o := (1, 0, 4, 1, [])) (by decide +kernel)]; rfl
theorem v_86_32 (xs : Option (List Int32)) (n : Nat) (b : Bool) (d : Nat) (ml : List Value) (t : T) (Q : Option Value → T → Prop) (st : List Value) : vc xs zH_86 (n + 1) b d 86 32 ml st t Q = (st.all zc1 = true ∧ vtk 2 st [] (fun as rest => rest.length ≤ 8 ∧ vrc as 12 (twc d 55 as t (fun r t' => vc xs zH_86 n true d 86 35 ml (r.toList ++ rest) t' Q)))) := by
  rw [vc_q (o := (36, 0, 55, 1, [(0, 12)])) (by decide +kernel)]; rfl
theorem v_86_35 (xs : Option (List Int32)) (n : Nat) (b : Bool) (d : Nat) (ml : List Value) (t : T) (Q : Option Value → T → Prop) (u : Int32) (r : List Value) : vc xs zH_86 (n + 1) b d 86 35 ml (.int u :: r) t Q = (if u = 0 then vc xs zH_86 n true d 86 48 ml r t Q else vc xs zH_86 n true d 86 38 ml r t Q) := by
  rw [vc_q (o := (21, 0, 48, 0, [])) (by decide +kernel)]; rfl
theorem v_86_38 (xs : Option (List Int32)) (n : Nat) (b : Bool) (d : Nat) (ml : List Value) (t : T) (Q : Option Value → T → Prop) (st : List Value) : vc xs zH_86 (n + 1) b d 86 38 ml st t Q = vga ml 0 (fun v => vc xs zH_86 n true d 86 39 ml (.ref v :: st) t Q) := by
  rw [vc_q (o := (2, 0, 0, 0, [])) (by decide +kernel)]; rfl
theorem v_86_39 (xs : Option (List Int32)) (n : Nat) (b : Bool) (d : Nat) (ml : List Value) (t : T) (Q : Option Value → T → Prop) (u : Nat) (r : List Value) : vc xs zH_86 (n + 1) b d 86 39 ml (.ref u :: r) t Q = (vtag u = 12 ∧ vc xs zH_86 n true d 86 42 ml (.ref (tref t u 8) :: r) t Q) := by
  rw [vc_q (o := (25, 0, 12, 8, [])) (by decide +kernel)]; rfl
theorem v_86_42 (xs : Option (List Int32)) (n : Nat) (b : Bool) (d : Nat) (ml : List Value) (t : T) (Q : Option Value → T → Prop) (st : List Value) : vc xs zH_86 (n + 1) b d 86 42 ml st t Q = vgi ml 4 (fun v => vc xs zH_86 n true d 86 44 ml (.int v :: st) t Q) := by
  rw [vc_q (o := (1, 0, 4, 1, [])) (by decide +kernel)]; rfl
theorem v_86_44 (xs : Option (List Int32)) (n : Nat) (b : Bool) (d : Nat) (ml : List Value) (t : T) (Q : Option Value → T → Prop) (v : Int32) (u : Nat) (r : List Value) : vc xs zH_86 (n + 1) b d 86 44 ml (.int v :: .ref u :: r) t Q = (vtag u = 100 ∧ vinb v (vlen u) ∧ vc xs zH_86 n true d 86 45 ml (.int (t.1 u v.toNatClampNeg) :: r) t Q) := by
  rw [vc_q (o := (29, 0, 0, 0, [])) (by decide +kernel)]; rfl
theorem v_86_45 (xs : Option (List Int32)) (n : Nat) (b : Bool) (d : Nat) (ml : List Value) (t : T) (Q : Option Value → T → Prop) (u : Int32) (r : List Value) : vc xs zH_86 (n + 1) b d 86 45 ml (.int u :: r) t Q = (if u = 0 then vc xs zH_86 n true d 86 50 ml r t Q else vc xs zH_86 n true d 86 48 ml r t Q) := by
  rw [vc_q (o := (21, 0, 50, 0, [])) (by decide +kernel)]; rfl
theorem v_86_48 (xs : Option (List Int32)) (n : Nat) (b : Bool) (d : Nat) (ml : List Value) (t : T) (Q : Option Value → T → Prop) (st : List Value) : vc xs zH_86 (n + 1) b d 86 48 ml st t Q = vc xs zH_86 n true d 86 49 ml (.int (-1) :: st) t Q := by
  rw [vc_q (o := (0, (-1), 0, 0, [])) (by decide +kernel)]; rfl
theorem v_86_49 (xs : Option (List Int32)) (n : Nat) (b : Bool) (d : Nat) (ml : List Value) (t : T) (Q : Option Value → T → Prop) (v : Int32) : vc xs zH_86 (n + 1) b d 86 49 ml [.int v] t Q = Q (some (.int v)) t := by
  rw [vc_q (o := (40, 0, 0, 0, [])) (by decide +kernel)]; rfl
theorem v_86_50 (xs : Option (List Int32)) (n : Nat) (b : Bool) (d : Nat) (ml : List Value) (t : T) (Q : Option Value → T → Prop) (st : List Value) : vc xs zH_86 (n + 1) b d 86 50 ml st t Q = vgi ml 3 (fun v => vc xs zH_86 n true d 86 51 ml (.int v :: st) t Q) := by
  rw [vc_q (o := (1, 0, 3, 0, [])) (by decide +kernel)]; rfl
theorem v_86_51 (xs : Option (List Int32)) (n : Nat) (b : Bool) (d : Nat) (ml : List Value) (t : T) (Q : Option Value → T → Prop) (st : List Value) : vc xs zH_86 (n + 1) b d 86 51 ml st t Q = vc xs zH_86 n true d 86 53 ml (.int 16 :: st) t Q := by
  rw [vc_q (o := (0, 16, 1, 0, [])) (by decide +kernel)]; rfl
theorem v_86_53 (xs : Option (List Int32)) (n : Nat) (b : Bool) (d : Nat) (ml : List Value) (t : T) (Q : Option Value → T → Prop) (u v : Int32) (r : List Value) : vc xs zH_86 (n + 1) b d 86 53 ml (.int v :: .int u :: r) t Q = (¬ v = 0 ∧ vc xs zH_86 n true d 86 54 ml (.int (u - u / v * v) :: r) t Q) := by
  rw [vc_q (o := (15, 0, 0, 0, [])) (by decide +kernel)]; rfl
theorem v_86_54 (xs : Option (List Int32)) (n : Nat) (b : Bool) (d : Nat) (ml : List Value) (t : T) (Q : Option Value → T → Prop) (v : Int32) (r : List Value) : vc xs zH_86 (n + 1) b d 86 54 ml (.int v :: r) t Q = vset ml 5 (.int v) (fun l => vc xs zH_86 n true d 86 56 l r t Q) := by
  rw [vc_q (o := (3, 0, 5, 1, [])) (by decide +kernel)]; rfl
theorem v_86_56 (xs : Option (List Int32)) (n : Nat) (b : Bool) (d : Nat) (ml : List Value) (t : T) (Q : Option Value → T → Prop) (st : List Value) : vc xs zH_86 (n + 1) b d 86 56 ml st t Q = vgi ml 3 (fun v => vc xs zH_86 n true d 86 57 ml (.int v :: st) t Q) := by
  rw [vc_q (o := (1, 0, 3, 0, [])) (by decide +kernel)]; rfl
theorem v_86_57 (xs : Option (List Int32)) (n : Nat) (b : Bool) (d : Nat) (ml : List Value) (t : T) (Q : Option Value → T → Prop) (st : List Value) : vc xs zH_86 (n + 1) b d 86 57 ml st t Q = vc xs zH_86 n true d 86 59 ml (.int 16 :: st) t Q := by
  rw [vc_q (o := (0, 16, 1, 0, [])) (by decide +kernel)]; rfl
theorem v_86_59 (xs : Option (List Int32)) (n : Nat) (b : Bool) (d : Nat) (ml : List Value) (t : T) (Q : Option Value → T → Prop) (u v : Int32) (r : List Value) : vc xs zH_86 (n + 1) b d 86 59 ml (.int v :: .int u :: r) t Q = (¬ v = 0 ∧ vc xs zH_86 n true d 86 60 ml (.int (u / v) :: r) t Q) := by
  rw [vc_q (o := (14, 0, 0, 0, [])) (by decide +kernel)]; rfl
theorem v_86_60 (xs : Option (List Int32)) (n : Nat) (b : Bool) (d : Nat) (ml : List Value) (t : T) (Q : Option Value → T → Prop) (st : List Value) : vc xs zH_86 (n + 1) b d 86 60 ml st t Q = vc xs zH_86 n true d 86 62 ml (.int 16 :: st) t Q := by
  rw [vc_q (o := (0, 16, 1, 0, [])) (by decide +kernel)]; rfl
theorem v_86_62 (xs : Option (List Int32)) (n : Nat) (b : Bool) (d : Nat) (ml : List Value) (t : T) (Q : Option Value → T → Prop) (u v : Int32) (r : List Value) : vc xs zH_86 (n + 1) b d 86 62 ml (.int v :: .int u :: r) t Q = (¬ v = 0 ∧ vc xs zH_86 n true d 86 63 ml (.int (u - u / v * v) :: r) t Q) := by
  rw [vc_q (o := (15, 0, 0, 0, [])) (by decide +kernel)]; rfl
theorem v_86_63 (xs : Option (List Int32)) (n : Nat) (b : Bool) (d : Nat) (ml : List Value) (t : T) (Q : Option Value → T → Prop) (v : Int32) (r : List Value) : vc xs zH_86 (n + 1) b d 86 63 ml (.int v :: r) t Q = vset ml 6 (.int v) (fun l => vc xs zH_86 n true d 86 65 l r t Q) := by
  rw [vc_q (o := (3, 0, 6, 1, [])) (by decide +kernel)]; rfl
theorem v_86_65 (xs : Option (List Int32)) (n : Nat) (b : Bool) (d : Nat) (ml : List Value) (t : T) (Q : Option Value → T → Prop) (st : List Value) : vc xs zH_86 (n + 1) b d 86 65 ml st t Q = vgi ml 5 (fun v => vc xs zH_86 n true d 86 67 ml (.int v :: st) t Q) := by
  rw [vc_q (o := (1, 0, 5, 1, [])) (by decide +kernel)]; rfl
theorem v_86_67 (xs : Option (List Int32)) (n : Nat) (b : Bool) (d : Nat) (ml : List Value) (t : T) (Q : Option Value → T → Prop) (st : List Value) : vc xs zH_86 (n + 1) b d 86 67 ml st t Q = vc xs zH_86 n true d 86 68 ml (.int 2 :: st) t Q := by
  rw [vc_q (o := (0, 2, 0, 0, [])) (by decide +kernel)]; rfl
theorem v_86_68 (xs : Option (List Int32)) (n : Nat) (b : Bool) (d : Nat) (ml : List Value) (t : T) (Q : Option Value → T → Prop) (st : List Value) : vc xs zH_86 (n + 1) b d 86 68 ml st t Q = vc xs zH_86 n true d 86 70 ml (.int 7 :: st) t Q := by
  rw [vc_q (o := (0, 7, 1, 0, [])) (by decide +kernel)]; rfl
theorem v_86_70 (xs : Option (List Int32)) (n : Nat) (b : Bool) (d : Nat) (ml : List Value) (t : T) (Q : Option Value → T → Prop) (st : List Value) : vc xs zH_86 (n + 1) b d 86 70 ml st t Q = (st.all zc1 = true ∧ vtk 3 st [] (fun as rest => rest.length ≤ 8 ∧ twc d 37 as t (fun r t' => vc xs zH_86 n true d 86 73 ml (r.toList ++ rest) t' Q))) := by
  rw [vc_q (o := (37, 0, 37, 3, [])) (by decide +kernel)]; rfl
theorem v_86_73 (xs : Option (List Int32)) (n : Nat) (b : Bool) (d : Nat) (ml : List Value) (t : T) (Q : Option Value → T → Prop) (u : Int32) (r : List Value) : vc xs zH_86 (n + 1) b d 86 73 ml (.int u :: r) t Q = (if u = 0 then vc xs zH_86 n true d 86 83 ml r t Q else vc xs zH_86 n true d 86 76 ml r t Q) := by
  rw [vc_q (o := (21, 0, 83, 0, [])) (by decide +kernel)]; rfl
theorem v_86_76 (xs : Option (List Int32)) (n : Nat) (b : Bool) (d : Nat) (ml : List Value) (t : T) (Q : Option Value → T → Prop) (st : List Value) : vc xs zH_86 (n + 1) b d 86 76 ml st t Q = vgi ml 5 (fun v => vc xs zH_86 n true d 86 78 ml (.int v :: st) t Q) := by
  rw [vc_q (o := (1, 0, 5, 1, [])) (by decide +kernel)]; rfl
theorem v_86_78 (xs : Option (List Int32)) (n : Nat) (b : Bool) (d : Nat) (ml : List Value) (t : T) (Q : Option Value → T → Prop) (st : List Value) : vc xs zH_86 (n + 1) b d 86 78 ml st t Q = vc xs zH_86 n true d 86 80 ml (.int 15 :: st) t Q := by
  rw [vc_q (o := (0, 15, 1, 0, [])) (by decide +kernel)]; rfl
theorem v_86_80 (xs : Option (List Int32)) (n : Nat) (b : Bool) (d : Nat) (ml : List Value) (t : T) (Q : Option Value → T → Prop) (u v : Int32) (r : List Value) : vc xs zH_86 (n + 1) b d 86 80 ml (.int v :: .int u :: r) t Q = (if u = v then vc xs zH_86 n true d 86 83 ml r t Q else vc xs zH_86 n true d 86 107 ml r t Q) := by
  rw [vc_q (o := (20, 0, 107, 1, [])) (by decide +kernel)]; rfl
theorem v_86_83 (xs : Option (List Int32)) (n : Nat) (b : Bool) (d : Nat) (ml : List Value) (t : T) (Q : Option Value → T → Prop) (st : List Value) : vc xs zH_86 (n + 1) b d 86 83 ml st t Q = vgi ml 5 (fun v => vc xs zH_86 n true d 86 85 ml (.int v :: st) t Q) := by
  rw [vc_q (o := (1, 0, 5, 1, [])) (by decide +kernel)]; rfl
theorem v_86_85 (xs : Option (List Int32)) (n : Nat) (b : Bool) (d : Nat) (ml : List Value) (t : T) (Q : Option Value → T → Prop) (st : List Value) : vc xs zH_86 (n + 1) b d 86 85 ml st t Q = vc xs zH_86 n true d 86 87 ml (.int 6 :: st) t Q := by
  rw [vc_q (o := (0, 6, 1, 0, [])) (by decide +kernel)]; rfl
theorem v_86_87 (xs : Option (List Int32)) (n : Nat) (b : Bool) (d : Nat) (ml : List Value) (t : T) (Q : Option Value → T → Prop) (u v : Int32) (r : List Value) : vc xs zH_86 (n + 1) b d 86 87 ml (.int v :: .int u :: r) t Q = (if u = v then vc xs zH_86 n true d 86 97 ml r t Q else vc xs zH_86 n true d 86 90 ml r t Q) := by
  rw [vc_q (o := (20, 0, 97, 0, [])) (by decide +kernel)]; rfl
theorem v_86_90 (xs : Option (List Int32)) (n : Nat) (b : Bool) (d : Nat) (ml : List Value) (t : T) (Q : Option Value → T → Prop) (st : List Value) : vc xs zH_86 (n + 1) b d 86 90 ml st t Q = vgi ml 5 (fun v => vc xs zH_86 n true d 86 92 ml (.int v :: st) t Q) := by
  rw [vc_q (o := (1, 0, 5, 1, [])) (by decide +kernel)]; rfl
theorem v_86_92 (xs : Option (List Int32)) (n : Nat) (b : Bool) (d : Nat) (ml : List Value) (t : T) (Q : Option Value → T → Prop) (st : List Value) : vc xs zH_86 (n + 1) b d 86 92 ml st t Q = vc xs zH_86 n true d 86 94 ml (.int 7 :: st) t Q := by
  rw [vc_q (o := (0, 7, 1, 0, [])) (by decide +kernel)]; rfl
theorem v_86_94 (xs : Option (List Int32)) (n : Nat) (b : Bool) (d : Nat) (ml : List Value) (t : T) (Q : Option Value → T → Prop) (u v : Int32) (r : List Value) : vc xs zH_86 (n + 1) b d 86 94 ml (.int v :: .int u :: r) t Q = (if u = v then vc xs zH_86 n true d 86 97 ml r t Q else vc xs zH_86 n true d 86 109 ml r t Q) := by
  rw [vc_q (o := (20, 0, 109, 1, [])) (by decide +kernel)]; rfl
theorem v_86_97 (xs : Option (List Int32)) (n : Nat) (b : Bool) (d : Nat) (ml : List Value) (t : T) (Q : Option Value → T → Prop) (st : List Value) : vc xs zH_86 (n + 1) b d 86 97 ml st t Q = vgi ml 6 (fun v => vc xs zH_86 n true d 86 99 ml (.int v :: st) t Q) := by
  rw [vc_q (o := (1, 0, 6, 1, [])) (by decide +kernel)]; rfl
theorem v_86_99 (xs : Option (List Int32)) (n : Nat) (b : Bool) (d : Nat) (ml : List Value) (t : T) (Q : Option Value → T → Prop) (st : List Value) : vc xs zH_86 (n + 1) b d 86 99 ml st t Q = vc xs zH_86 n true d 86 100 ml (.int 2 :: st) t Q := by
  rw [vc_q (o := (0, 2, 0, 0, [])) (by decide +kernel)]; rfl
theorem v_86_100 (xs : Option (List Int32)) (n : Nat) (b : Bool) (d : Nat) (ml : List Value) (t : T) (Q : Option Value → T → Prop) (st : List Value) : vc xs zH_86 (n + 1) b d 86 100 ml st t Q = vc xs zH_86 n true d 86 101 ml (.int 5 :: st) t Q := by
  rw [vc_q (o := (0, 5, 0, 0, [])) (by decide +kernel)]; rfl
theorem v_86_101 (xs : Option (List Int32)) (n : Nat) (b : Bool) (d : Nat) (ml : List Value) (t : T) (Q : Option Value → T → Prop) (st : List Value) : vc xs zH_86 (n + 1) b d 86 101 ml st t Q = (st.all zc1 = true ∧ vtk 3 st [] (fun as rest => rest.length ≤ 8 ∧ twc d 37 as t (fun r t' => vc xs zH_86 n true d 86 104 ml (r.toList ++ rest) t' Q))) := by
  rw [vc_q (o := (37, 0, 37, 3, [])) (by decide +kernel)]; rfl
theorem v_86_104 (xs : Option (List Int32)) (n : Nat) (b : Bool) (d : Nat) (ml : List Value) (t : T) (Q : Option Value → T → Prop) (u : Int32) (r : List Value) : vc xs zH_86 (n + 1) b d 86 104 ml (.int u :: r) t Q = (if u = 0 then vc xs zH_86 n true d 86 109 ml r t Q else vc xs zH_86 n true d 86 107 ml r t Q) := by
  rw [vc_q (o := (21, 0, 109, 0, [])) (by decide +kernel)]; rfl
theorem v_86_107 (xs : Option (List Int32)) (n : Nat) (b : Bool) (d : Nat) (ml : List Value) (t : T) (Q : Option Value → T → Prop) (st : List Value) : vc xs zH_86 (n + 1) b d 86 107 ml st t Q = vc xs zH_86 n true d 86 108 ml (.int (-1) :: st) t Q := by
  rw [vc_q (o := (0, (-1), 0, 0, [])) (by decide +kernel)]; rfl
theorem v_86_108 (xs : Option (List Int32)) (n : Nat) (b : Bool) (d : Nat) (ml : List Value) (t : T) (Q : Option Value → T → Prop) (v : Int32) : vc xs zH_86 (n + 1) b d 86 108 ml [.int v] t Q = Q (some (.int v)) t := by
  rw [vc_q (o := (40, 0, 0, 0, [])) (by decide +kernel)]; rfl
theorem v_86_109 (xs : Option (List Int32)) (n : Nat) (b : Bool) (d : Nat) (ml : List Value) (t : T) (Q : Option Value → T → Prop) (st : List Value) : vc xs zH_86 (n + 1) b d 86 109 ml st t Q = vga ml 0 (fun v => vc xs zH_86 n true d 86 110 ml (.ref v :: st) t Q) := by
  rw [vc_q (o := (2, 0, 0, 0, [])) (by decide +kernel)]; rfl
theorem v_86_110 (xs : Option (List Int32)) (n : Nat) (b : Bool) (d : Nat) (ml : List Value) (t : T) (Q : Option Value → T → Prop) (u : Nat) (r : List Value) : vc xs zH_86 (n + 1) b d 86 110 ml (.ref u :: r) t Q = (vtag u = 12 ∧ vc xs zH_86 n true d 86 113 ml (.int (t.1 u 14) :: r) t Q) := by
  rw [vc_q (o := (24, 0, 12, 14, [])) (by decide +kernel)]; rfl
theorem v_86_113 (xs : Option (List Int32)) (n : Nat) (b : Bool) (d : Nat) (ml : List Value) (t : T) (Q : Option Value → T → Prop) (st : List Value) : vc xs zH_86 (n + 1) b d 86 113 ml st t Q = vc xs zH_86 n true d 86 115 ml (.int 8 :: st) t Q := by
  rw [vc_q (o := (0, 8, 1, 0, [])) (by decide +kernel)]; rfl
theorem v_86_115 (xs : Option (List Int32)) (n : Nat) (b : Bool) (d : Nat) (ml : List Value) (t : T) (Q : Option Value → T → Prop) (u v : Int32) (r : List Value) : vc xs zH_86 (n + 1) b d 86 115 ml (.int v :: .int u :: r) t Q = (if u = v then vc xs zH_86 n true d 86 118 ml r t Q else vc xs zH_86 n true d 86 121 ml r t Q) := by
  rw [vc_q (o := (20, 0, 121, 1, [])) (by decide +kernel)]; rfl
theorem v_86_118 (xs : Option (List Int32)) (n : Nat) (b : Bool) (d : Nat) (ml : List Value) (t : T) (Q : Option Value → T → Prop) (st : List Value) : vc xs zH_86 (n + 1) b d 86 118 ml st t Q = vc xs zH_86 n true d 86 120 ml (.int (-2) :: st) t Q := by
  rw [vc_q (o := (0, (-2), 1, 0, [])) (by decide +kernel)]; rfl
theorem v_86_120 (xs : Option (List Int32)) (n : Nat) (b : Bool) (d : Nat) (ml : List Value) (t : T) (Q : Option Value → T → Prop) (v : Int32) : vc xs zH_86 (n + 1) b d 86 120 ml [.int v] t Q = Q (some (.int v)) t := by
  rw [vc_q (o := (40, 0, 0, 0, [])) (by decide +kernel)]; rfl
theorem v_86_121 (xs : Option (List Int32)) (n : Nat) (b : Bool) (d : Nat) (ml : List Value) (t : T) (Q : Option Value → T → Prop) (st : List Value) : vc xs zH_86 (n + 1) b d 86 121 ml st t Q = vga ml 0 (fun v => vc xs zH_86 n true d 86 122 ml (.ref v :: st) t Q) := by
  rw [vc_q (o := (2, 0, 0, 0, [])) (by decide +kernel)]; rfl
theorem v_86_122 (xs : Option (List Int32)) (n : Nat) (b : Bool) (d : Nat) (ml : List Value) (t : T) (Q : Option Value → T → Prop) (u : Nat) (r : List Value) : vc xs zH_86 (n + 1) b d 86 122 ml (.ref u :: r) t Q = (vtag u = 12 ∧ vc xs zH_86 n true d 86 125 ml (.ref (tref t u 15) :: r) t Q) := by
  rw [vc_q (o := (25, 0, 12, 15, [])) (by decide +kernel)]; rfl
theorem v_86_125 (xs : Option (List Int32)) (n : Nat) (b : Bool) (d : Nat) (ml : List Value) (t : T) (Q : Option Value → T → Prop) (st : List Value) : vc xs zH_86 (n + 1) b d 86 125 ml st t Q = vga ml 0 (fun v => vc xs zH_86 n true d 86 126 ml (.ref v :: st) t Q) := by
  rw [vc_q (o := (2, 0, 0, 0, [])) (by decide +kernel)]; rfl
theorem v_86_126 (xs : Option (List Int32)) (n : Nat) (b : Bool) (d : Nat) (ml : List Value) (t : T) (Q : Option Value → T → Prop) (u : Nat) (r : List Value) : vc xs zH_86 (n + 1) b d 86 126 ml (.ref u :: r) t Q = (vtag u = 12 ∧ vc xs zH_86 n true d 86 129 ml (.int (t.1 u 14) :: r) t Q) := by
  rw [vc_q (o := (24, 0, 12, 14, [])) (by decide +kernel)]; rfl
theorem v_86_129 (xs : Option (List Int32)) (n : Nat) (b : Bool) (d : Nat) (ml : List Value) (t : T) (Q : Option Value → T → Prop) (st : List Value) : vc xs zH_86 (n + 1) b d 86 129 ml st t Q = vgi ml 1 (fun v => vc xs zH_86 n true d 86 130 ml (.int v :: st) t Q) := by
  rw [vc_q (o := (1, 0, 1, 0, [])) (by decide +kernel)]; rfl
theorem v_86_130 (xs : Option (List Int32)) (n : Nat) (b : Bool) (d : Nat) (ml : List Value) (t : T) (Q : Option Value → T → Prop) (w v : Int32) (u : Nat) (r : List Value) : vc xs zH_86 (n + 1) b d 86 130 ml (.int w :: .int v :: .ref u :: r) t Q = (vtag u = 100 ∧ vinb v (vlen u) ∧ vc xs zH_86 n true d 86 131 ml r (tsi t u v.toNatClampNeg w) Q) := by
  rw [vc_q (o := (32, 0, 0, 0, [])) (by decide +kernel)]; rfl
theorem v_86_131 (xs : Option (List Int32)) (n : Nat) (b : Bool) (d : Nat) (ml : List Value) (t : T) (Q : Option Value → T → Prop) (st : List Value) : vc xs zH_86 (n + 1) b d 86 131 ml st t Q = vga ml 0 (fun v => vc xs zH_86 n true d 86 132 ml (.ref v :: st) t Q) := by
  rw [vc_q (o := (2, 0, 0, 0, [])) (by decide +kernel)]; rfl
theorem v_86_132 (xs : Option (List Int32)) (n : Nat) (b : Bool) (d : Nat) (ml : List Value) (t : T) (Q : Option Value → T → Prop) (u : Nat) (r : List Value) : vc xs zH_86 (n + 1) b d 86 132 ml (.ref u :: r) t Q = (vtag u = 12 ∧ vc xs zH_86 n true d 86 135 ml (.ref (tref t u 16) :: r) t Q) := by
  rw [vc_q (o := (25, 0, 12, 16, [])) (by decide +kernel)]; rfl
theorem v_86_135 (xs : Option (List Int32)) (n : Nat) (b : Bool) (d : Nat) (ml : List Value) (t : T) (Q : Option Value → T → Prop) (st : List Value) : vc xs zH_86 (n + 1) b d 86 135 ml st t Q = vga ml 0 (fun v => vc xs zH_86 n true d 86 136 ml (.ref v :: st) t Q) := by
  rw [vc_q (o := (2, 0, 0, 0, [])) (by decide +kernel)]; rfl
theorem v_86_136 (xs : Option (List Int32)) (n : Nat) (b : Bool) (d : Nat) (ml : List Value) (t : T) (Q : Option Value → T → Prop) (u : Nat) (r : List Value) : vc xs zH_86 (n + 1) b d 86 136 ml (.ref u :: r) t Q = (vtag u = 12 ∧ vc xs zH_86 n true d 86 139 ml (.int (t.1 u 14) :: r) t Q) := by
  rw [vc_q (o := (24, 0, 12, 14, [])) (by decide +kernel)]; rfl
theorem v_86_139 (xs : Option (List Int32)) (n : Nat) (b : Bool) (d : Nat) (ml : List Value) (t : T) (Q : Option Value → T → Prop) (st : List Value) : vc xs zH_86 (n + 1) b d 86 139 ml st t Q = vgi ml 2 (fun v => vc xs zH_86 n true d 86 140 ml (.int v :: st) t Q) := by
  rw [vc_q (o := (1, 0, 2, 0, [])) (by decide +kernel)]; rfl
theorem v_86_140 (xs : Option (List Int32)) (n : Nat) (b : Bool) (d : Nat) (ml : List Value) (t : T) (Q : Option Value → T → Prop) (w v : Int32) (u : Nat) (r : List Value) : vc xs zH_86 (n + 1) b d 86 140 ml (.int w :: .int v :: .ref u :: r) t Q = (vtag u = 100 ∧ vinb v (vlen u) ∧ vc xs zH_86 n true d 86 141 ml r (tsi t u v.toNatClampNeg w) Q) := by
  rw [vc_q (o := (32, 0, 0, 0, [])) (by decide +kernel)]; rfl
theorem v_86_141 (xs : Option (List Int32)) (n : Nat) (b : Bool) (d : Nat) (ml : List Value) (t : T) (Q : Option Value → T → Prop) (st : List Value) : vc xs zH_86 (n + 1) b d 86 141 ml st t Q = vga ml 0 (fun v => vc xs zH_86 n true d 86 142 ml (.ref v :: st) t Q) := by
  rw [vc_q (o := (2, 0, 0, 0, [])) (by decide +kernel)]; rfl
theorem v_86_142 (xs : Option (List Int32)) (n : Nat) (b : Bool) (d : Nat) (ml : List Value) (t : T) (Q : Option Value → T → Prop) (u : Nat) (r : List Value) : vc xs zH_86 (n + 1) b d 86 142 ml (.ref u :: r) t Q = (vtag u = 12 ∧ vc xs zH_86 n true d 86 145 ml (.ref (tref t u 17) :: r) t Q) := by
  rw [vc_q (o := (25, 0, 12, 17, [])) (by decide +kernel)]; rfl
theorem v_86_145 (xs : Option (List Int32)) (n : Nat) (b : Bool) (d : Nat) (ml : List Value) (t : T) (Q : Option Value → T → Prop) (st : List Value) : vc xs zH_86 (n + 1) b d 86 145 ml st t Q = vga ml 0 (fun v => vc xs zH_86 n true d 86 146 ml (.ref v :: st) t Q) := by
  rw [vc_q (o := (2, 0, 0, 0, [])) (by decide +kernel)]; rfl
theorem v_86_146 (xs : Option (List Int32)) (n : Nat) (b : Bool) (d : Nat) (ml : List Value) (t : T) (Q : Option Value → T → Prop) (u : Nat) (r : List Value) : vc xs zH_86 (n + 1) b d 86 146 ml (.ref u :: r) t Q = (vtag u = 12 ∧ vc xs zH_86 n true d 86 149 ml (.int (t.1 u 14) :: r) t Q) := by
  rw [vc_q (o := (24, 0, 12, 14, [])) (by decide +kernel)]; rfl
theorem v_86_149 (xs : Option (List Int32)) (n : Nat) (b : Bool) (d : Nat) (ml : List Value) (t : T) (Q : Option Value → T → Prop) (st : List Value) : vc xs zH_86 (n + 1) b d 86 149 ml st t Q = vgi ml 3 (fun v => vc xs zH_86 n true d 86 150 ml (.int v :: st) t Q) := by
  rw [vc_q (o := (1, 0, 3, 0, [])) (by decide +kernel)]; rfl
theorem v_86_150 (xs : Option (List Int32)) (n : Nat) (b : Bool) (d : Nat) (ml : List Value) (t : T) (Q : Option Value → T → Prop) (w v : Int32) (u : Nat) (r : List Value) : vc xs zH_86 (n + 1) b d 86 150 ml (.int w :: .int v :: .ref u :: r) t Q = (vtag u = 100 ∧ vinb v (vlen u) ∧ vc xs zH_86 n true d 86 151 ml r (tsi t u v.toNatClampNeg w) Q) := by
  rw [vc_q (o := (32, 0, 0, 0, [])) (by decide +kernel)]; rfl
theorem v_86_151 (xs : Option (List Int32)) (n : Nat) (b : Bool) (d : Nat) (ml : List Value) (t : T) (Q : Option Value → T → Prop) (st : List Value) : vc xs zH_86 (n + 1) b d 86 151 ml st t Q = vga ml 0 (fun v => vc xs zH_86 n true d 86 152 ml (.ref v :: st) t Q) := by
  rw [vc_q (o := (2, 0, 0, 0, [])) (by decide +kernel)]; rfl
theorem v_86_152 (xs : Option (List Int32)) (n : Nat) (b : Bool) (d : Nat) (ml : List Value) (t : T) (Q : Option Value → T → Prop) (u : Nat) (r : List Value) : vc xs zH_86 (n + 1) b d 86 152 ml (.ref u :: r) t Q = (vtag u = 12 ∧ vc xs zH_86 n true d 86 155 ml (.ref (tref t u 18) :: r) t Q) := by
  rw [vc_q (o := (25, 0, 12, 18, [])) (by decide +kernel)]; rfl
theorem v_86_155 (xs : Option (List Int32)) (n : Nat) (b : Bool) (d : Nat) (ml : List Value) (t : T) (Q : Option Value → T → Prop) (st : List Value) : vc xs zH_86 (n + 1) b d 86 155 ml st t Q = vga ml 0 (fun v => vc xs zH_86 n true d 86 156 ml (.ref v :: st) t Q) := by
  rw [vc_q (o := (2, 0, 0, 0, [])) (by decide +kernel)]; rfl
theorem v_86_156 (xs : Option (List Int32)) (n : Nat) (b : Bool) (d : Nat) (ml : List Value) (t : T) (Q : Option Value → T → Prop) (u : Nat) (r : List Value) : vc xs zH_86 (n + 1) b d 86 156 ml (.ref u :: r) t Q = (vtag u = 12 ∧ vc xs zH_86 n true d 86 159 ml (.int (t.1 u 14) :: r) t Q) := by
  rw [vc_q (o := (24, 0, 12, 14, [])) (by decide +kernel)]; rfl
theorem v_86_159 (xs : Option (List Int32)) (n : Nat) (b : Bool) (d : Nat) (ml : List Value) (t : T) (Q : Option Value → T → Prop) (st : List Value) : vc xs zH_86 (n + 1) b d 86 159 ml st t Q = vgi ml 4 (fun v => vc xs zH_86 n true d 86 161 ml (.int v :: st) t Q) := by
  rw [vc_q (o := (1, 0, 4, 1, [])) (by decide +kernel)]; rfl
theorem v_86_161 (xs : Option (List Int32)) (n : Nat) (b : Bool) (d : Nat) (ml : List Value) (t : T) (Q : Option Value → T → Prop) (w v : Int32) (u : Nat) (r : List Value) : vc xs zH_86 (n + 1) b d 86 161 ml (.int w :: .int v :: .ref u :: r) t Q = (vtag u = 100 ∧ vinb v (vlen u) ∧ vc xs zH_86 n true d 86 162 ml r (tsi t u v.toNatClampNeg w) Q) := by
  rw [vc_q (o := (32, 0, 0, 0, [])) (by decide +kernel)]; rfl
theorem v_86_162 (xs : Option (List Int32)) (n : Nat) (b : Bool) (d : Nat) (ml : List Value) (t : T) (Q : Option Value → T → Prop) (st : List Value) : vc xs zH_86 (n + 1) b d 86 162 ml st t Q = vga ml 0 (fun v => vc xs zH_86 n true d 86 163 ml (.ref v :: st) t Q) := by
  rw [vc_q (o := (2, 0, 0, 0, [])) (by decide +kernel)]; rfl
theorem v_86_163_int (xs : Option (List Int32)) (n : Nat) (b : Bool) (d : Nat) (ml : List Value) (t : T) (Q : Option Value → T → Prop) (v : Int32) (r : List Value) : vc xs zH_86 (n + 1) b d 86 163 ml (.int v :: r) t Q = vc xs zH_86 n true d 86 164 ml (.int v :: .int v :: r) t Q := by
  rw [vc_q (o := (17, 0, 0, 0, [])) (by decide +kernel)]; rfl
theorem v_86_163_ref (xs : Option (List Int32)) (n : Nat) (b : Bool) (d : Nat) (ml : List Value) (t : T) (Q : Option Value → T → Prop) (v : Nat) (r : List Value) : vc xs zH_86 (n + 1) b d 86 163 ml (.ref v :: r) t Q = vc xs zH_86 n true d 86 164 ml (.ref v :: .ref v :: r) t Q := by
  rw [vc_q (o := (17, 0, 0, 0, [])) (by decide +kernel)]; rfl
theorem v_86_164 (xs : Option (List Int32)) (n : Nat) (b : Bool) (d : Nat) (ml : List Value) (t : T) (Q : Option Value → T → Prop) (u : Nat) (r : List Value) : vc xs zH_86 (n + 1) b d 86 164 ml (.ref u :: r) t Q = (vtag u = 12 ∧ vc xs zH_86 n true d 86 167 ml (.int (t.1 u 14) :: r) t Q) := by
  rw [vc_q (o := (24, 0, 12, 14, [])) (by decide +kernel)]; rfl
theorem v_86_167 (xs : Option (List Int32)) (n : Nat) (b : Bool) (d : Nat) (ml : List Value) (t : T) (Q : Option Value → T → Prop) (st : List Value) : vc xs zH_86 (n + 1) b d 86 167 ml st t Q = vc xs zH_86 n true d 86 168 ml (.int 1 :: st) t Q := by
  rw [vc_q (o := (0, 1, 0, 0, [])) (by decide +kernel)]; rfl
theorem v_86_168 (xs : Option (List Int32)) (n : Nat) (b : Bool) (d : Nat) (ml : List Value) (t : T) (Q : Option Value → T → Prop) (u v : Int32) (r : List Value) : vc xs zH_86 (n + 1) b d 86 168 ml (.int v :: .int u :: r) t Q = vc xs zH_86 n true d 86 169 ml (.int (u + v) :: r) t Q := by
  rw [vc_q (o := (6, 0, 0, 0, [])) (by decide +kernel)]; rfl
theorem v_86_169 (xs : Option (List Int32)) (n : Nat) (b : Bool) (d : Nat) (ml : List Value) (t : T) (Q : Option Value → T → Prop) (v : Int32) (u : Nat) (r : List Value) : vc xs zH_86 (n + 1) b d 86 169 ml (.int v :: .ref u :: r) t Q = (vtag u = 12 ∧ vc xs zH_86 n true d 86 172 ml r (tsi t u 14 v) Q) := by
  rw [vc_q (o := (26, 0, 12, 14, [])) (by decide +kernel)]; rfl
theorem v_86_172 (xs : Option (List Int32)) (n : Nat) (b : Bool) (d : Nat) (ml : List Value) (t : T) (Q : Option Value → T → Prop) (st : List Value) : vc xs zH_86 (n + 1) b d 86 172 ml st t Q = vga ml 0 (fun v => vc xs zH_86 n true d 86 173 ml (.ref v :: st) t Q) := by
  rw [vc_q (o := (2, 0, 0, 0, [])) (by decide +kernel)]; rfl
theorem v_86_173 (xs : Option (List Int32)) (n : Nat) (b : Bool) (d : Nat) (ml : List Value) (t : T) (Q : Option Value → T → Prop) (u : Nat) (r : List Value) : vc xs zH_86 (n + 1) b d 86 173 ml (.ref u :: r) t Q = (vtag u = 12 ∧ vc xs zH_86 n true d 86 176 ml (.int (t.1 u 14) :: r) t Q) := by
  rw [vc_q (o := (24, 0, 12, 14, [])) (by decide +kernel)]; rfl
theorem v_86_176 (xs : Option (List Int32)) (n : Nat) (b : Bool) (d : Nat) (ml : List Value) (t : T) (Q : Option Value → T → Prop) (st : List Value) : vc xs zH_86 (n + 1) b d 86 176 ml st t Q = vc xs zH_86 n true d 86 177 ml (.int 1 :: st) t Q := by
  rw [vc_q (o := (0, 1, 0, 0, [])) (by decide +kernel)]; rfl
theorem v_86_177 (xs : Option (List Int32)) (n : Nat) (b : Bool) (d : Nat) (ml : List Value) (t : T) (Q : Option Value → T → Prop) (u v : Int32) (r : List Value) : vc xs zH_86 (n + 1) b d 86 177 ml (.int v :: .int u :: r) t Q = vc xs zH_86 n true d 86 178 ml (.int (u - v) :: r) t Q := by
  rw [vc_q (o := (7, 0, 0, 0, [])) (by decide +kernel)]; rfl
theorem v_86_178 (xs : Option (List Int32)) (n : Nat) (b : Bool) (d : Nat) (ml : List Value) (t : T) (Q : Option Value → T → Prop) (v : Int32) : vc xs zH_86 (n + 1) b d 86 178 ml [.int v] t Q = Q (some (.int v)) t := by
  rw [vc_q (o := (40, 0, 0, 0, [])) (by decide +kernel)]; rfl
def zH_87 : List Nat := []
theorem v_87_0 (xs : Option (List Int32)) (n : Nat) (b : Bool) (d : Nat) (ml : List Value) (t : T) (Q : Option Value → T → Prop) (st : List Value) : vc xs zH_87 (n + 1) b d 87 0 ml st t Q = vgi ml 1 (fun v => vc xs zH_87 n true d 87 1 ml (.int v :: st) t Q) := by
  rw [vc_q (o := (1, 0, 1, 0, [])) (by decide +kernel)]; rfl
theorem v_87_1 (xs : Option (List Int32)) (n : Nat) (b : Bool) (d : Nat) (ml : List Value) (t : T) (Q : Option Value → T → Prop) (u : Int32) (r : List Value) : vc xs zH_87 (n + 1) b d 87 1 ml (.int u :: r) t Q = (if u < 0 then vc xs zH_87 n true d 87 59 ml r t Q else vc xs zH_87 n true d 87 4 ml r t Q) := by
  rw [vc_q (o := (21, 0, 59, 2, [])) (by decide +kernel)]; rfl
theorem v_87_4 (xs : Option (List Int32)) (n : Nat) (b : Bool) (d : Nat) (ml : List Value) (t : T) (Q : Option Value → T → Prop) (st : List Value) : vc xs zH_87 (n + 1) b d 87 4 ml st t Q = vgi ml 1 (fun v => vc xs zH_87 n true d 87 5 ml (.int v :: st) t Q) := by
  rw [vc_q (o := (1, 0, 1, 0, [])) (by decide +kernel)]; rfl
theorem v_87_5 (xs : Option (List Int32)) (n : Nat) (b : Bool) (d : Nat) (ml : List Value) (t : T) (Q : Option Value → T → Prop) (st : List Value) : vc xs zH_87 (n + 1) b d 87 5 ml st t Q = vga ml 0 (fun v => vc xs zH_87 n true d 87 6 ml (.ref v :: st) t Q) := by
  rw [vc_q (o := (2, 0, 0, 0, [])) (by decide +kernel)]; rfl
theorem v_87_6 (xs : Option (List Int32)) (n : Nat) (b : Bool) (d : Nat) (ml : List Value) (t : T) (Q : Option Value → T → Prop) (u : Nat) (r : List Value) : vc xs zH_87 (n + 1) b d 87 6 ml (.ref u :: r) t Q = (vtag u = 12 ∧ vc xs zH_87 n true d 87 9 ml (.int (t.1 u 14) :: r) t Q) := by
  rw [vc_q (o := (24, 0, 12, 14, [])) (by decide +kernel)]; rfl
theorem v_87_9 (xs : Option (List Int32)) (n : Nat) (b : Bool) (d : Nat) (ml : List Value) (t : T) (Q : Option Value → T → Prop) (u v : Int32) (r : List Value) : vc xs zH_87 (n + 1) b d 87 9 ml (.int v :: .int u :: r) t Q = (if u < v then vc xs zH_87 n true d 87 12 ml r t Q else vc xs zH_87 n true d 87 59 ml r t Q) := by
  rw [vc_q (o := (20, 0, 59, 3, [])) (by decide +kernel)]; rfl
theorem v_87_12 (xs : Option (List Int32)) (n : Nat) (b : Bool) (d : Nat) (ml : List Value) (t : T) (Q : Option Value → T → Prop) (st : List Value) : vc xs zH_87 (n + 1) b d 87 12 ml st t Q = vgi ml 2 (fun v => vc xs zH_87 n true d 87 13 ml (.int v :: st) t Q) := by
  rw [vc_q (o := (1, 0, 2, 0, [])) (by decide +kernel)]; rfl
theorem v_87_13 (xs : Option (List Int32)) (n : Nat) (b : Bool) (d : Nat) (ml : List Value) (t : T) (Q : Option Value → T → Prop) (st : List Value) : vc xs zH_87 (n + 1) b d 87 13 ml st t Q = vc xs zH_87 n true d 87 14 ml (.int 0 :: st) t Q := by
  rw [vc_q (o := (0, 0, 0, 0, [])) (by decide +kernel)]; rfl
theorem v_87_14 (xs : Option (List Int32)) (n : Nat) (b : Bool) (d : Nat) (ml : List Value) (t : T) (Q : Option Value → T → Prop) (st : List Value) : vc xs zH_87 (n + 1) b d 87 14 ml st t Q = vc xs zH_87 n true d 87 16 ml (.int 7 :: st) t Q := by
  rw [vc_q (o := (0, 7, 1, 0, [])) (by decide +kernel)]; rfl
theorem v_87_16 (xs : Option (List Int32)) (n : Nat) (b : Bool) (d : Nat) (ml : List Value) (t : T) (Q : Option Value → T → Prop) (st : List Value) : vc xs zH_87 (n + 1) b d 87 16 ml st t Q = (st.all zc1 = true ∧ vtk 3 st [] (fun as rest => rest.length ≤ 8 ∧ twc d 37 as t (fun r t' => vc xs zH_87 n true d 87 19 ml (r.toList ++ rest) t' Q))) := by
  rw [vc_q (o := (37, 0, 37, 3, [])) (by decide +kernel)]; rfl
theorem v_87_19 (xs : Option (List Int32)) (n : Nat) (b : Bool) (d : Nat) (ml : List Value) (t : T) (Q : Option Value → T → Prop) (u : Int32) (r : List Value) : vc xs zH_87 (n + 1) b d 87 19 ml (.int u :: r) t Q = (if u = 0 then vc xs zH_87 n true d 87 22 ml r t Q else vc xs zH_87 n true d 87 59 ml r t Q) := by
  rw [vc_q (o := (21, 0, 59, 1, [])) (by decide +kernel)]; rfl
theorem v_87_22 (xs : Option (List Int32)) (n : Nat) (b : Bool) (d : Nat) (ml : List Value) (t : T) (Q : Option Value → T → Prop) (st : List Value) : vc xs zH_87 (n + 1) b d 87 22 ml st t Q = vga ml 0 (fun v => vc xs zH_87 n true d 87 23 ml (.ref v :: st) t Q) := by
  rw [vc_q (o := (2, 0, 0, 0, [])) (by decide +kernel)]; rfl
theorem v_87_23 (xs : Option (List Int32)) (n : Nat) (b : Bool) (d : Nat) (ml : List Value) (t : T) (Q : Option Value → T → Prop) (st : List Value) : vc xs zH_87 (n + 1) b d 87 23 ml st t Q = vgi ml 3 (fun v => vc xs zH_87 n true d 87 24 ml (.int v :: st) t Q) := by
  rw [vc_q (o := (1, 0, 3, 0, [])) (by decide +kernel)]; rfl
theorem v_87_24 (xs : Option (List Int32)) (n : Nat) (b : Bool) (d : Nat) (ml : List Value) (t : T) (Q : Option Value → T → Prop) (st : List Value) : vc xs zH_87 (n + 1) b d 87 24 ml st t Q = (st.all zc1 = true ∧ vtk 2 st [] (fun as rest => rest.length ≤ 8 ∧ vrc as 12 (twc d 55 as t (fun r t' => vc xs zH_87 n true d 87 27 ml (r.toList ++ rest) t' Q)))) := by
  rw [vc_q (o := (36, 0, 55, 1, [(0, 12)])) (by decide +kernel)]; rfl
theorem v_87_27 (xs : Option (List Int32)) (n : Nat) (b : Bool) (d : Nat) (ml : List Value) (t : T) (Q : Option Value → T → Prop) (u : Int32) (r : List Value) : vc xs zH_87 (n + 1) b d 87 27 ml (.int u :: r) t Q = (if u = 0 then vc xs zH_87 n true d 87 59 ml r t Q else vc xs zH_87 n true d 87 30 ml r t Q) := by
  rw [vc_q (o := (21, 0, 59, 0, [])) (by decide +kernel)]; rfl
theorem v_87_30 (xs : Option (List Int32)) (n : Nat) (b : Bool) (d : Nat) (ml : List Value) (t : T) (Q : Option Value → T → Prop) (st : List Value) : vc xs zH_87 (n + 1) b d 87 30 ml st t Q = vga ml 0 (fun v => vc xs zH_87 n true d 87 31 ml (.ref v :: st) t Q) := by
  rw [vc_q (o := (2, 0, 0, 0, [])) (by decide +kernel)]; rfl
theorem v_87_31 (xs : Option (List Int32)) (n : Nat) (b : Bool) (d : Nat) (ml : List Value) (t : T) (Q : Option Value → T → Prop) (u : Nat) (r : List Value) : vc xs zH_87 (n + 1) b d 87 31 ml (.ref u :: r) t Q = (vtag u = 12 ∧ vc xs zH_87 n true d 87 34 ml (.ref (tref t u 8) :: r) t Q) := by
  rw [vc_q (o := (25, 0, 12, 8, [])) (by decide +kernel)]; rfl
theorem v_87_34 (xs : Option (List Int32)) (n : Nat) (b : Bool) (d : Nat) (ml : List Value) (t : T) (Q : Option Value → T → Prop) (st : List Value) : vc xs zH_87 (n + 1) b d 87 34 ml st t Q = vgi ml 3 (fun v => vc xs zH_87 n true d 87 35 ml (.int v :: st) t Q) := by
  rw [vc_q (o := (1, 0, 3, 0, [])) (by decide +kernel)]; rfl
theorem v_87_35 (xs : Option (List Int32)) (n : Nat) (b : Bool) (d : Nat) (ml : List Value) (t : T) (Q : Option Value → T → Prop) (v : Int32) (u : Nat) (r : List Value) : vc xs zH_87 (n + 1) b d 87 35 ml (.int v :: .ref u :: r) t Q = (vtag u = 100 ∧ vinb v (vlen u) ∧ vc xs zH_87 n true d 87 36 ml (.int (t.1 u v.toNatClampNeg) :: r) t Q) := by
  rw [vc_q (o := (29, 0, 0, 0, [])) (by decide +kernel)]; rfl
theorem v_87_36 (xs : Option (List Int32)) (n : Nat) (b : Bool) (d : Nat) (ml : List Value) (t : T) (Q : Option Value → T → Prop) (st : List Value) : vc xs zH_87 (n + 1) b d 87 36 ml st t Q = vgi ml 2 (fun v => vc xs zH_87 n true d 87 37 ml (.int v :: st) t Q) := by
  rw [vc_q (o := (1, 0, 2, 0, [])) (by decide +kernel)]; rfl
theorem v_87_37 (xs : Option (List Int32)) (n : Nat) (b : Bool) (d : Nat) (ml : List Value) (t : T) (Q : Option Value → T → Prop) (st : List Value) : vc xs zH_87 (n + 1) b d 87 37 ml st t Q = vc xs zH_87 n true d 87 38 ml (.int 2 :: st) t Q := by
  rw [vc_q (o := (0, 2, 0, 0, [])) (by decide +kernel)]; rfl
theorem v_87_38 (xs : Option (List Int32)) (n : Nat) (b : Bool) (d : Nat) (ml : List Value) (t : T) (Q : Option Value → T → Prop) (u v : Int32) (r : List Value) : vc xs zH_87 (n + 1) b d 87 38 ml (.int v :: .int u :: r) t Q = (if u < v then vc xs zH_87 n true d 87 41 ml r t Q else vc xs zH_87 n true d 87 45 ml r t Q) := by
  rw [vc_q (o := (20, 0, 45, 3, [])) (by decide +kernel)]; rfl
theorem v_87_41 (xs : Option (List Int32)) (n : Nat) (b : Bool) (d : Nat) (ml : List Value) (t : T) (Q : Option Value → T → Prop) (st : List Value) : vc xs zH_87 (n + 1) b d 87 41 ml st t Q = vc xs zH_87 n true d 87 42 ml (.int 0 :: st) t Q := by
  rw [vc_q (o := (0, 0, 0, 0, [])) (by decide +kernel)]; rfl
theorem v_87_42 (xs : Option (List Int32)) (n : Nat) (b : Bool) (d : Nat) (ml : List Value) (t : T) (Q : Option Value → T → Prop) (st : List Value) : vc xs zH_87 (n + 1) b d 87 42 ml st t Q = vc xs zH_87 n true d 87 56 ml st t Q := by
  rw [vc_q (o := (22, 0, 56, 0, [])) (by decide +kernel)]; rfl
theorem v_87_45 (xs : Option (List Int32)) (n : Nat) (b : Bool) (d : Nat) (ml : List Value) (t : T) (Q : Option Value → T → Prop) (st : List Value) : vc xs zH_87 (n + 1) b d 87 45 ml st t Q = vgi ml 2 (fun v => vc xs zH_87 n true d 87 46 ml (.int v :: st) t Q) := by
  rw [vc_q (o := (1, 0, 2, 0, [])) (by decide +kernel)]; rfl
theorem v_87_46 (xs : Option (List Int32)) (n : Nat) (b : Bool) (d : Nat) (ml : List Value) (t : T) (Q : Option Value → T → Prop) (st : List Value) : vc xs zH_87 (n + 1) b d 87 46 ml st t Q = vc xs zH_87 n true d 87 48 ml (.int 6 :: st) t Q := by
  rw [vc_q (o := (0, 6, 1, 0, [])) (by decide +kernel)]; rfl
theorem v_87_48 (xs : Option (List Int32)) (n : Nat) (b : Bool) (d : Nat) (ml : List Value) (t : T) (Q : Option Value → T → Prop) (u v : Int32) (r : List Value) : vc xs zH_87 (n + 1) b d 87 48 ml (.int v :: .int u :: r) t Q = (if u < v then vc xs zH_87 n true d 87 51 ml r t Q else vc xs zH_87 n true d 87 55 ml r t Q) := by
  rw [vc_q (o := (20, 0, 55, 3, [])) (by decide +kernel)]; rfl
theorem v_87_51 (xs : Option (List Int32)) (n : Nat) (b : Bool) (d : Nat) (ml : List Value) (t : T) (Q : Option Value → T → Prop) (st : List Value) : vc xs zH_87 (n + 1) b d 87 51 ml st t Q = vc xs zH_87 n true d 87 52 ml (.int 1 :: st) t Q := by
  rw [vc_q (o := (0, 1, 0, 0, [])) (by decide +kernel)]; rfl
theorem v_87_52 (xs : Option (List Int32)) (n : Nat) (b : Bool) (d : Nat) (ml : List Value) (t : T) (Q : Option Value → T → Prop) (st : List Value) : vc xs zH_87 (n + 1) b d 87 52 ml st t Q = vc xs zH_87 n true d 87 56 ml st t Q := by
  rw [vc_q (o := (22, 0, 56, 0, [])) (by decide +kernel)]; rfl
theorem v_87_55 (xs : Option (List Int32)) (n : Nat) (b : Bool) (d : Nat) (ml : List Value) (t : T) (Q : Option Value → T → Prop) (st : List Value) : vc xs zH_87 (n + 1) b d 87 55 ml st t Q = vc xs zH_87 n true d 87 56 ml (.int 3 :: st) t Q := by
  rw [vc_q (o := (0, 3, 0, 0, [])) (by decide +kernel)]; rfl
theorem v_87_56 (xs : Option (List Int32)) (n : Nat) (b : Bool) (d : Nat) (ml : List Value) (t : T) (Q : Option Value → T → Prop) (u v : Int32) (r : List Value) : vc xs zH_87 (n + 1) b d 87 56 ml (.int v :: .int u :: r) t Q = (if v < u then vc xs zH_87 n true d 87 59 ml r t Q else vc xs zH_87 n true d 87 61 ml r t Q) := by
  rw [vc_q (o := (20, 0, 61, 5, [])) (by decide +kernel)]; rfl
theorem v_87_59 (xs : Option (List Int32)) (n : Nat) (b : Bool) (d : Nat) (ml : List Value) (t : T) (Q : Option Value → T → Prop) (st : List Value) : vc xs zH_87 (n + 1) b d 87 59 ml st t Q = vc xs zH_87 n true d 87 60 ml (.int (-1) :: st) t Q := by
  rw [vc_q (o := (0, (-1), 0, 0, [])) (by decide +kernel)]; rfl
theorem v_87_60 (xs : Option (List Int32)) (n : Nat) (b : Bool) (d : Nat) (ml : List Value) (t : T) (Q : Option Value → T → Prop) (v : Int32) : vc xs zH_87 (n + 1) b d 87 60 ml [.int v] t Q = Q (some (.int v)) t := by
  rw [vc_q (o := (40, 0, 0, 0, [])) (by decide +kernel)]; rfl
theorem v_87_61 (xs : Option (List Int32)) (n : Nat) (b : Bool) (d : Nat) (ml : List Value) (t : T) (Q : Option Value → T → Prop) (st : List Value) : vc xs zH_87 (n + 1) b d 87 61 ml st t Q = vga ml 0 (fun v => vc xs zH_87 n true d 87 62 ml (.ref v :: st) t Q) := by
  rw [vc_q (o := (2, 0, 0, 0, [])) (by decide +kernel)]; rfl
theorem v_87_62 (xs : Option (List Int32)) (n : Nat) (b : Bool) (d : Nat) (ml : List Value) (t : T) (Q : Option Value → T → Prop) (u : Nat) (r : List Value) : vc xs zH_87 (n + 1) b d 87 62 ml (.ref u :: r) t Q = (vtag u = 12 ∧ vc xs zH_87 n true d 87 65 ml (.ref (tref t u 19) :: r) t Q) := by
  rw [vc_q (o := (25, 0, 12, 19, [])) (by decide +kernel)]; rfl
theorem v_87_65 (xs : Option (List Int32)) (n : Nat) (b : Bool) (d : Nat) (ml : List Value) (t : T) (Q : Option Value → T → Prop) (st : List Value) : vc xs zH_87 (n + 1) b d 87 65 ml st t Q = vgi ml 1 (fun v => vc xs zH_87 n true d 87 66 ml (.int v :: st) t Q) := by
  rw [vc_q (o := (1, 0, 1, 0, [])) (by decide +kernel)]; rfl
theorem v_87_66 (xs : Option (List Int32)) (n : Nat) (b : Bool) (d : Nat) (ml : List Value) (t : T) (Q : Option Value → T → Prop) (v : Int32) (u : Nat) (r : List Value) : vc xs zH_87 (n + 1) b d 87 66 ml (.int v :: .ref u :: r) t Q = (vtag u = 100 ∧ vinb v (vlen u) ∧ vc xs zH_87 n true d 87 67 ml (.int (t.1 u v.toNatClampNeg) :: r) t Q) := by
  rw [vc_q (o := (29, 0, 0, 0, [])) (by decide +kernel)]; rfl
theorem v_87_67 (xs : Option (List Int32)) (n : Nat) (b : Bool) (d : Nat) (ml : List Value) (t : T) (Q : Option Value → T → Prop) (st : List Value) : vc xs zH_87 (n + 1) b d 87 67 ml st t Q = vc xs zH_87 n true d 87 68 ml (.int 4 :: st) t Q := by
  rw [vc_q (o := (0, 4, 0, 0, [])) (by decide +kernel)]; rfl
theorem v_87_68 (xs : Option (List Int32)) (n : Nat) (b : Bool) (d : Nat) (ml : List Value) (t : T) (Q : Option Value → T → Prop) (u v : Int32) (r : List Value) : vc xs zH_87 (n + 1) b d 87 68 ml (.int v :: .int u :: r) t Q = (if u = v then vc xs zH_87 n true d 87 71 ml r t Q else vc xs zH_87 n true d 87 74 ml r t Q) := by
  rw [vc_q (o := (20, 0, 74, 1, [])) (by decide +kernel)]; rfl
theorem v_87_71 (xs : Option (List Int32)) (n : Nat) (b : Bool) (d : Nat) (ml : List Value) (t : T) (Q : Option Value → T → Prop) (st : List Value) : vc xs zH_87 (n + 1) b d 87 71 ml st t Q = vc xs zH_87 n true d 87 73 ml (.int (-2) :: st) t Q := by
  rw [vc_q (o := (0, (-2), 1, 0, [])) (by decide +kernel)]; rfl
theorem v_87_73 (xs : Option (List Int32)) (n : Nat) (b : Bool) (d : Nat) (ml : List Value) (t : T) (Q : Option Value → T → Prop) (v : Int32) : vc xs zH_87 (n + 1) b d 87 73 ml [.int v] t Q = Q (some (.int v)) t := by
  rw [vc_q (o := (40, 0, 0, 0, [])) (by decide +kernel)]; rfl
theorem v_87_74 (xs : Option (List Int32)) (n : Nat) (b : Bool) (d : Nat) (ml : List Value) (t : T) (Q : Option Value → T → Prop) (st : List Value) : vc xs zH_87 (n + 1) b d 87 74 ml st t Q = vga ml 0 (fun v => vc xs zH_87 n true d 87 75 ml (.ref v :: st) t Q) := by
  rw [vc_q (o := (2, 0, 0, 0, [])) (by decide +kernel)]; rfl
theorem v_87_75 (xs : Option (List Int32)) (n : Nat) (b : Bool) (d : Nat) (ml : List Value) (t : T) (Q : Option Value → T → Prop) (u : Nat) (r : List Value) : vc xs zH_87 (n + 1) b d 87 75 ml (.ref u :: r) t Q = (vtag u = 12 ∧ vc xs zH_87 n true d 87 78 ml (.ref (tref t u 20) :: r) t Q) := by
  rw [vc_q (o := (25, 0, 12, 20, [])) (by decide +kernel)]; rfl
theorem v_87_78 (xs : Option (List Int32)) (n : Nat) (b : Bool) (d : Nat) (ml : List Value) (t : T) (Q : Option Value → T → Prop) (st : List Value) : vc xs zH_87 (n + 1) b d 87 78 ml st t Q = vc xs zH_87 n true d 87 79 ml (.int 4 :: st) t Q := by
  rw [vc_q (o := (0, 4, 0, 0, [])) (by decide +kernel)]; rfl
theorem v_87_79 (xs : Option (List Int32)) (n : Nat) (b : Bool) (d : Nat) (ml : List Value) (t : T) (Q : Option Value → T → Prop) (st : List Value) : vc xs zH_87 (n + 1) b d 87 79 ml st t Q = vgi ml 1 (fun v => vc xs zH_87 n true d 87 80 ml (.int v :: st) t Q) := by
  rw [vc_q (o := (1, 0, 1, 0, [])) (by decide +kernel)]; rfl
theorem v_87_80 (xs : Option (List Int32)) (n : Nat) (b : Bool) (d : Nat) (ml : List Value) (t : T) (Q : Option Value → T → Prop) (u v : Int32) (r : List Value) : vc xs zH_87 (n + 1) b d 87 80 ml (.int v :: .int u :: r) t Q = vc xs zH_87 n true d 87 81 ml (.int (u * v) :: r) t Q := by
  rw [vc_q (o := (8, 0, 0, 0, [])) (by decide +kernel)]; rfl
theorem v_87_81 (xs : Option (List Int32)) (n : Nat) (b : Bool) (d : Nat) (ml : List Value) (t : T) (Q : Option Value → T → Prop) (st : List Value) : vc xs zH_87 (n + 1) b d 87 81 ml st t Q = vga ml 0 (fun v => vc xs zH_87 n true d 87 82 ml (.ref v :: st) t Q) := by
  rw [vc_q (o := (2, 0, 0, 0, [])) (by decide +kernel)]; rfl
theorem v_87_82 (xs : Option (List Int32)) (n : Nat) (b : Bool) (d : Nat) (ml : List Value) (t : T) (Q : Option Value → T → Prop) (u : Nat) (r : List Value) : vc xs zH_87 (n + 1) b d 87 82 ml (.ref u :: r) t Q = (vtag u = 12 ∧ vc xs zH_87 n true d 87 85 ml (.ref (tref t u 19) :: r) t Q) := by
  rw [vc_q (o := (25, 0, 12, 19, [])) (by decide +kernel)]; rfl
theorem v_87_85 (xs : Option (List Int32)) (n : Nat) (b : Bool) (d : Nat) (ml : List Value) (t : T) (Q : Option Value → T → Prop) (st : List Value) : vc xs zH_87 (n + 1) b d 87 85 ml st t Q = vgi ml 1 (fun v => vc xs zH_87 n true d 87 86 ml (.int v :: st) t Q) := by
  rw [vc_q (o := (1, 0, 1, 0, [])) (by decide +kernel)]; rfl
theorem v_87_86 (xs : Option (List Int32)) (n : Nat) (b : Bool) (d : Nat) (ml : List Value) (t : T) (Q : Option Value → T → Prop) (v : Int32) (u : Nat) (r : List Value) : vc xs zH_87 (n + 1) b d 87 86 ml (.int v :: .ref u :: r) t Q = (vtag u = 100 ∧ vinb v (vlen u) ∧ vc xs zH_87 n true d 87 87 ml (.int (t.1 u v.toNatClampNeg) :: r) t Q) := by
  rw [vc_q (o := (29, 0, 0, 0, [])) (by decide +kernel)]; rfl
theorem v_87_87 (xs : Option (List Int32)) (n : Nat) (b : Bool) (d : Nat) (ml : List Value) (t : T) (Q : Option Value → T → Prop) (u v : Int32) (r : List Value) : vc xs zH_87 (n + 1) b d 87 87 ml (.int v :: .int u :: r) t Q = vc xs zH_87 n true d 87 88 ml (.int (u + v) :: r) t Q := by
  rw [vc_q (o := (6, 0, 0, 0, [])) (by decide +kernel)]; rfl
theorem v_87_88 (xs : Option (List Int32)) (n : Nat) (b : Bool) (d : Nat) (ml : List Value) (t : T) (Q : Option Value → T → Prop) (st : List Value) : vc xs zH_87 (n + 1) b d 87 88 ml st t Q = vgi ml 2 (fun v => vc xs zH_87 n true d 87 89 ml (.int v :: st) t Q) := by
  rw [vc_q (o := (1, 0, 2, 0, [])) (by decide +kernel)]; rfl
theorem v_87_89 (xs : Option (List Int32)) (n : Nat) (b : Bool) (d : Nat) (ml : List Value) (t : T) (Q : Option Value → T → Prop) (w v : Int32) (u : Nat) (r : List Value) : vc xs zH_87 (n + 1) b d 87 89 ml (.int w :: .int v :: .ref u :: r) t Q = (vtag u = 100 ∧ vinb v (vlen u) ∧ vc xs zH_87 n true d 87 90 ml r (tsi t u v.toNatClampNeg w) Q) := by
  rw [vc_q (o := (32, 0, 0, 0, [])) (by decide +kernel)]; rfl
theorem v_87_90 (xs : Option (List Int32)) (n : Nat) (b : Bool) (d : Nat) (ml : List Value) (t : T) (Q : Option Value → T → Prop) (st : List Value) : vc xs zH_87 (n + 1) b d 87 90 ml st t Q = vga ml 0 (fun v => vc xs zH_87 n true d 87 91 ml (.ref v :: st) t Q) := by
  rw [vc_q (o := (2, 0, 0, 0, [])) (by decide +kernel)]; rfl
theorem v_87_91 (xs : Option (List Int32)) (n : Nat) (b : Bool) (d : Nat) (ml : List Value) (t : T) (Q : Option Value → T → Prop) (u : Nat) (r : List Value) : vc xs zH_87 (n + 1) b d 87 91 ml (.ref u :: r) t Q = (vtag u = 12 ∧ vc xs zH_87 n true d 87 94 ml (.ref (tref t u 21) :: r) t Q) := by
  rw [vc_q (o := (25, 0, 12, 21, [])) (by decide +kernel)]; rfl
theorem v_87_94 (xs : Option (List Int32)) (n : Nat) (b : Bool) (d : Nat) (ml : List Value) (t : T) (Q : Option Value → T → Prop) (st : List Value) : vc xs zH_87 (n + 1) b d 87 94 ml st t Q = vc xs zH_87 n true d 87 95 ml (.int 4 :: st) t Q := by
  rw [vc_q (o := (0, 4, 0, 0, [])) (by decide +kernel)]; rfl
theorem v_87_95 (xs : Option (List Int32)) (n : Nat) (b : Bool) (d : Nat) (ml : List Value) (t : T) (Q : Option Value → T → Prop) (st : List Value) : vc xs zH_87 (n + 1) b d 87 95 ml st t Q = vgi ml 1 (fun v => vc xs zH_87 n true d 87 96 ml (.int v :: st) t Q) := by
  rw [vc_q (o := (1, 0, 1, 0, [])) (by decide +kernel)]; rfl
theorem v_87_96 (xs : Option (List Int32)) (n : Nat) (b : Bool) (d : Nat) (ml : List Value) (t : T) (Q : Option Value → T → Prop) (u v : Int32) (r : List Value) : vc xs zH_87 (n + 1) b d 87 96 ml (.int v :: .int u :: r) t Q = vc xs zH_87 n true d 87 97 ml (.int (u * v) :: r) t Q := by
  rw [vc_q (o := (8, 0, 0, 0, [])) (by decide +kernel)]; rfl
theorem v_87_97 (xs : Option (List Int32)) (n : Nat) (b : Bool) (d : Nat) (ml : List Value) (t : T) (Q : Option Value → T → Prop) (st : List Value) : vc xs zH_87 (n + 1) b d 87 97 ml st t Q = vga ml 0 (fun v => vc xs zH_87 n true d 87 98 ml (.ref v :: st) t Q) := by
  rw [vc_q (o := (2, 0, 0, 0, [])) (by decide +kernel)]; rfl
theorem v_87_98 (xs : Option (List Int32)) (n : Nat) (b : Bool) (d : Nat) (ml : List Value) (t : T) (Q : Option Value → T → Prop) (u : Nat) (r : List Value) : vc xs zH_87 (n + 1) b d 87 98 ml (.ref u :: r) t Q = (vtag u = 12 ∧ vc xs zH_87 n true d 87 101 ml (.ref (tref t u 19) :: r) t Q) := by
  rw [vc_q (o := (25, 0, 12, 19, [])) (by decide +kernel)]; rfl
theorem v_87_101 (xs : Option (List Int32)) (n : Nat) (b : Bool) (d : Nat) (ml : List Value) (t : T) (Q : Option Value → T → Prop) (st : List Value) : vc xs zH_87 (n + 1) b d 87 101 ml st t Q = vgi ml 1 (fun v => vc xs zH_87 n true d 87 102 ml (.int v :: st) t Q) := by
  rw [vc_q (o := (1, 0, 1, 0, [])) (by decide +kernel)]; rfl
theorem v_87_102 (xs : Option (List Int32)) (n : Nat) (b : Bool) (d : Nat) (ml : List Value) (t : T) (Q : Option Value → T → Prop) (v : Int32) (u : Nat) (r : List Value) : vc xs zH_87 (n + 1) b d 87 102 ml (.int v :: .ref u :: r) t Q = (vtag u = 100 ∧ vinb v (vlen u) ∧ vc xs zH_87 n true d 87 103 ml (.int (t.1 u v.toNatClampNeg) :: r) t Q) := by
  rw [vc_q (o := (29, 0, 0, 0, [])) (by decide +kernel)]; rfl
theorem v_87_103 (xs : Option (List Int32)) (n : Nat) (b : Bool) (d : Nat) (ml : List Value) (t : T) (Q : Option Value → T → Prop) (u v : Int32) (r : List Value) : vc xs zH_87 (n + 1) b d 87 103 ml (.int v :: .int u :: r) t Q = vc xs zH_87 n true d 87 104 ml (.int (u + v) :: r) t Q := by
  rw [vc_q (o := (6, 0, 0, 0, [])) (by decide +kernel)]; rfl
theorem v_87_104 (xs : Option (List Int32)) (n : Nat) (b : Bool) (d : Nat) (ml : List Value) (t : T) (Q : Option Value → T → Prop) (st : List Value) : vc xs zH_87 (n + 1) b d 87 104 ml st t Q = vgi ml 3 (fun v => vc xs zH_87 n true d 87 105 ml (.int v :: st) t Q) := by
  rw [vc_q (o := (1, 0, 3, 0, [])) (by decide +kernel)]; rfl
theorem v_87_105 (xs : Option (List Int32)) (n : Nat) (b : Bool) (d : Nat) (ml : List Value) (t : T) (Q : Option Value → T → Prop) (w v : Int32) (u : Nat) (r : List Value) : vc xs zH_87 (n + 1) b d 87 105 ml (.int w :: .int v :: .ref u :: r) t Q = (vtag u = 100 ∧ vinb v (vlen u) ∧ vc xs zH_87 n true d 87 106 ml r (tsi t u v.toNatClampNeg w) Q) := by
  rw [vc_q (o := (32, 0, 0, 0, [])) (by decide +kernel)]; rfl
theorem v_87_106 (xs : Option (List Int32)) (n : Nat) (b : Bool) (d : Nat) (ml : List Value) (t : T) (Q : Option Value → T → Prop) (st : List Value) : vc xs zH_87 (n + 1) b d 87 106 ml st t Q = vga ml 0 (fun v => vc xs zH_87 n true d 87 107 ml (.ref v :: st) t Q) := by
  rw [vc_q (o := (2, 0, 0, 0, [])) (by decide +kernel)]; rfl
theorem v_87_107 (xs : Option (List Int32)) (n : Nat) (b : Bool) (d : Nat) (ml : List Value) (t : T) (Q : Option Value → T → Prop) (u : Nat) (r : List Value) : vc xs zH_87 (n + 1) b d 87 107 ml (.ref u :: r) t Q = (vtag u = 12 ∧ vc xs zH_87 n true d 87 110 ml (.ref (tref t u 19) :: r) t Q) := by
  rw [vc_q (o := (25, 0, 12, 19, [])) (by decide +kernel)]; rfl
theorem v_87_110 (xs : Option (List Int32)) (n : Nat) (b : Bool) (d : Nat) (ml : List Value) (t : T) (Q : Option Value → T → Prop) (st : List Value) : vc xs zH_87 (n + 1) b d 87 110 ml st t Q = vgi ml 1 (fun v => vc xs zH_87 n true d 87 111 ml (.int v :: st) t Q) := by
  rw [vc_q (o := (1, 0, 1, 0, [])) (by decide +kernel)]; rfl
theorem v_87_111 (xs : Option (List Int32)) (n : Nat) (b : Bool) (d : Nat) (ml : List Value) (t : T) (Q : Option Value → T → Prop) (v : Int32) (u : Nat) (r : List Value) : vc xs zH_87 (n + 1) b d 87 111 ml (.int v :: .ref u :: r) t Q = vc xs zH_87 n true d 87 112 ml (.int v :: .ref u :: .int v :: .ref u :: r) t Q := by
  rw [vc_q (o := (18, 0, 0, 0, [])) (by decide +kernel)]; rfl
theorem v_87_112 (xs : Option (List Int32)) (n : Nat) (b : Bool) (d : Nat) (ml : List Value) (t : T) (Q : Option Value → T → Prop) (v : Int32) (u : Nat) (r : List Value) : vc xs zH_87 (n + 1) b d 87 112 ml (.int v :: .ref u :: r) t Q = (vtag u = 100 ∧ vinb v (vlen u) ∧ vc xs zH_87 n true d 87 113 ml (.int (t.1 u v.toNatClampNeg) :: r) t Q) := by
  rw [vc_q (o := (29, 0, 0, 0, [])) (by decide +kernel)]; rfl
theorem v_87_113 (xs : Option (List Int32)) (n : Nat) (b : Bool) (d : Nat) (ml : List Value) (t : T) (Q : Option Value → T → Prop) (st : List Value) : vc xs zH_87 (n + 1) b d 87 113 ml st t Q = vc xs zH_87 n true d 87 114 ml (.int 1 :: st) t Q := by
  rw [vc_q (o := (0, 1, 0, 0, [])) (by decide +kernel)]; rfl
theorem v_87_114 (xs : Option (List Int32)) (n : Nat) (b : Bool) (d : Nat) (ml : List Value) (t : T) (Q : Option Value → T → Prop) (u v : Int32) (r : List Value) : vc xs zH_87 (n + 1) b d 87 114 ml (.int v :: .int u :: r) t Q = vc xs zH_87 n true d 87 115 ml (.int (u + v) :: r) t Q := by
  rw [vc_q (o := (6, 0, 0, 0, [])) (by decide +kernel)]; rfl
theorem v_87_115 (xs : Option (List Int32)) (n : Nat) (b : Bool) (d : Nat) (ml : List Value) (t : T) (Q : Option Value → T → Prop) (w v : Int32) (u : Nat) (r : List Value) : vc xs zH_87 (n + 1) b d 87 115 ml (.int w :: .int v :: .ref u :: r) t Q = (vtag u = 100 ∧ vinb v (vlen u) ∧ vc xs zH_87 n true d 87 116 ml r (tsi t u v.toNatClampNeg w) Q) := by
  rw [vc_q (o := (32, 0, 0, 0, [])) (by decide +kernel)]; rfl
theorem v_87_116 (xs : Option (List Int32)) (n : Nat) (b : Bool) (d : Nat) (ml : List Value) (t : T) (Q : Option Value → T → Prop) (st : List Value) : vc xs zH_87 (n + 1) b d 87 116 ml st t Q = vga ml 0 (fun v => vc xs zH_87 n true d 87 117 ml (.ref v :: st) t Q) := by
  rw [vc_q (o := (2, 0, 0, 0, [])) (by decide +kernel)]; rfl
theorem v_87_117 (xs : Option (List Int32)) (n : Nat) (b : Bool) (d : Nat) (ml : List Value) (t : T) (Q : Option Value → T → Prop) (u : Nat) (r : List Value) : vc xs zH_87 (n + 1) b d 87 117 ml (.ref u :: r) t Q = (vtag u = 12 ∧ vc xs zH_87 n true d 87 120 ml (.ref (tref t u 19) :: r) t Q) := by
  rw [vc_q (o := (25, 0, 12, 19, [])) (by decide +kernel)]; rfl
theorem v_87_120 (xs : Option (List Int32)) (n : Nat) (b : Bool) (d : Nat) (ml : List Value) (t : T) (Q : Option Value → T → Prop) (st : List Value) : vc xs zH_87 (n + 1) b d 87 120 ml st t Q = vgi ml 1 (fun v => vc xs zH_87 n true d 87 121 ml (.int v :: st) t Q) := by
  rw [vc_q (o := (1, 0, 1, 0, [])) (by decide +kernel)]; rfl
theorem v_87_121 (xs : Option (List Int32)) (n : Nat) (b : Bool) (d : Nat) (ml : List Value) (t : T) (Q : Option Value → T → Prop) (v : Int32) (u : Nat) (r : List Value) : vc xs zH_87 (n + 1) b d 87 121 ml (.int v :: .ref u :: r) t Q = (vtag u = 100 ∧ vinb v (vlen u) ∧ vc xs zH_87 n true d 87 122 ml (.int (t.1 u v.toNatClampNeg) :: r) t Q) := by
  rw [vc_q (o := (29, 0, 0, 0, [])) (by decide +kernel)]; rfl
theorem v_87_122 (xs : Option (List Int32)) (n : Nat) (b : Bool) (d : Nat) (ml : List Value) (t : T) (Q : Option Value → T → Prop) (v : Int32) : vc xs zH_87 (n + 1) b d 87 122 ml [.int v] t Q = Q (some (.int v)) t := by
  rw [vc_q (o := (40, 0, 0, 0, [])) (by decide +kernel)]; rfl
def zH_88 : List Nat := [25]
theorem v_88_0 (xs : Option (List Int32)) (n : Nat) (b : Bool) (d : Nat) (ml : List Value) (t : T) (Q : Option Value → T → Prop) (st : List Value) : vc xs zH_88 (n + 1) b d 88 0 ml st t Q = vga ml 0 (fun v => vc xs zH_88 n true d 88 1 ml (.ref v :: st) t Q) := by
  rw [vc_q (o := (2, 0, 0, 0, [])) (by decide +kernel)]; rfl
theorem v_88_1 (xs : Option (List Int32)) (n : Nat) (b : Bool) (d : Nat) (ml : List Value) (t : T) (Q : Option Value → T → Prop) (st : List Value) : vc xs zH_88 (n + 1) b d 88 1 ml st t Q = vgi ml 1 (fun v => vc xs zH_88 n true d 88 2 ml (.int v :: st) t Q) := by
  rw [vc_q (o := (1, 0, 1, 0, [])) (by decide +kernel)]; rfl
theorem v_88_2 (xs : Option (List Int32)) (n : Nat) (b : Bool) (d : Nat) (ml : List Value) (t : T) (Q : Option Value → T → Prop) (st : List Value) : vc xs zH_88 (n + 1) b d 88 2 ml st t Q = (st.all zc1 = true ∧ vtk 2 st [] (fun as rest => rest.length ≤ 8 ∧ vrc as 12 (twc d 40 as t (fun r t' => vc xs zH_88 n true d 88 5 ml (r.toList ++ rest) t' Q)))) := by
  rw [vc_q (o := (36, 0, 40, 1, [(0, 12)])) (by decide +kernel)]; rfl
theorem v_88_5 (xs : Option (List Int32)) (n : Nat) (b : Bool) (d : Nat) (ml : List Value) (t : T) (Q : Option Value → T → Prop) (v : Int32) (r : List Value) : vc xs zH_88 (n + 1) b d 88 5 ml (.int v :: r) t Q = vset ml 2 (.int v) (fun l => vc xs zH_88 n true d 88 6 l r t Q) := by
  rw [vc_q (o := (3, 0, 2, 0, [])) (by decide +kernel)]; rfl
theorem v_88_6 (xs : Option (List Int32)) (n : Nat) (b : Bool) (d : Nat) (ml : List Value) (t : T) (Q : Option Value → T → Prop) (st : List Value) : vc xs zH_88 (n + 1) b d 88 6 ml st t Q = vgi ml 2 (fun v => vc xs zH_88 n true d 88 7 ml (.int v :: st) t Q) := by
  rw [vc_q (o := (1, 0, 2, 0, [])) (by decide +kernel)]; rfl
theorem v_88_7 (xs : Option (List Int32)) (n : Nat) (b : Bool) (d : Nat) (ml : List Value) (t : T) (Q : Option Value → T → Prop) (st : List Value) : vc xs zH_88 (n + 1) b d 88 7 ml st t Q = vc xs zH_88 n true d 88 9 ml (.int 6 :: st) t Q := by
  rw [vc_q (o := (0, 6, 1, 0, [])) (by decide +kernel)]; rfl
theorem v_88_9 (xs : Option (List Int32)) (n : Nat) (b : Bool) (d : Nat) (ml : List Value) (t : T) (Q : Option Value → T → Prop) (u v : Int32) (r : List Value) : vc xs zH_88 (n + 1) b d 88 9 ml (.int v :: .int u :: r) t Q = (if u = v then vc xs zH_88 n true d 88 12 ml r t Q else vc xs zH_88 n true d 88 14 ml r t Q) := by
  rw [vc_q (o := (20, 0, 14, 1, [])) (by decide +kernel)]; rfl
theorem v_88_12 (xs : Option (List Int32)) (n : Nat) (b : Bool) (d : Nat) (ml : List Value) (t : T) (Q : Option Value → T → Prop) (st : List Value) : vc xs zH_88 (n + 1) b d 88 12 ml st t Q = vc xs zH_88 n true d 88 13 ml (.int 0 :: st) t Q := by
  rw [vc_q (o := (0, 0, 0, 0, [])) (by decide +kernel)]; rfl
theorem v_88_13 (xs : Option (List Int32)) (n : Nat) (b : Bool) (d : Nat) (ml : List Value) (t : T) (Q : Option Value → T → Prop) (v : Int32) : vc xs zH_88 (n + 1) b d 88 13 ml [.int v] t Q = ((v = 0 ∨ v = 1) ∧ Q (some (.int v)) t) := by
  rw [vc_q (o := (41, 0, 0, 0, [])) (by decide +kernel)]; rfl
theorem v_88_14 (xs : Option (List Int32)) (n : Nat) (b : Bool) (d : Nat) (ml : List Value) (t : T) (Q : Option Value → T → Prop) (st : List Value) : vc xs zH_88 (n + 1) b d 88 14 ml st t Q = vga ml 0 (fun v => vc xs zH_88 n true d 88 15 ml (.ref v :: st) t Q) := by
  rw [vc_q (o := (2, 0, 0, 0, [])) (by decide +kernel)]; rfl
theorem v_88_15 (xs : Option (List Int32)) (n : Nat) (b : Bool) (d : Nat) (ml : List Value) (t : T) (Q : Option Value → T → Prop) (st : List Value) : vc xs zH_88 (n + 1) b d 88 15 ml st t Q = vgi ml 1 (fun v => vc xs zH_88 n true d 88 16 ml (.int v :: st) t Q) := by
  rw [vc_q (o := (1, 0, 1, 0, [])) (by decide +kernel)]; rfl
theorem v_88_16 (xs : Option (List Int32)) (n : Nat) (b : Bool) (d : Nat) (ml : List Value) (t : T) (Q : Option Value → T → Prop) (st : List Value) : vc xs zH_88 (n + 1) b d 88 16 ml st t Q = vc xs zH_88 n true d 88 17 ml (.int 0 :: st) t Q := by
  rw [vc_q (o := (0, 0, 0, 0, [])) (by decide +kernel)]; rfl
theorem v_88_17 (xs : Option (List Int32)) (n : Nat) (b : Bool) (d : Nat) (ml : List Value) (t : T) (Q : Option Value → T → Prop) (st : List Value) : vc xs zH_88 (n + 1) b d 88 17 ml st t Q = vgi ml 2 (fun v => vc xs zH_88 n true d 88 18 ml (.int v :: st) t Q) := by
  rw [vc_q (o := (1, 0, 2, 0, [])) (by decide +kernel)]; rfl
theorem v_88_18 (xs : Option (List Int32)) (n : Nat) (b : Bool) (d : Nat) (ml : List Value) (t : T) (Q : Option Value → T → Prop) (st : List Value) : vc xs zH_88 (n + 1) b d 88 18 ml st t Q = vc xs zH_88 n true d 88 19 ml (.int 1 :: st) t Q := by
  rw [vc_q (o := (0, 1, 0, 0, [])) (by decide +kernel)]; rfl
theorem v_88_19 (xs : Option (List Int32)) (n : Nat) (b : Bool) (d : Nat) (ml : List Value) (t : T) (Q : Option Value → T → Prop) (u v : Int32) (r : List Value) : vc xs zH_88 (n + 1) b d 88 19 ml (.int v :: .int u :: r) t Q = vc xs zH_88 n true d 88 20 ml (.int (u + v) :: r) t Q := by
  rw [vc_q (o := (6, 0, 0, 0, [])) (by decide +kernel)]; rfl
theorem v_88_20 (xs : Option (List Int32)) (n : Nat) (b : Bool) (d : Nat) (ml : List Value) (t : T) (Q : Option Value → T → Prop) (st : List Value) : vc xs zH_88 (n + 1) b d 88 20 ml st t Q = (st.all zc1 = true ∧ vtk 4 st [] (fun as rest => rest.length ≤ 8 ∧ vrc as 12 (twc d 39 as t (fun r t' => vc xs zH_88 n true d 88 23 ml (r.toList ++ rest) t' Q)))) := by
  rw [vc_q (o := (36, 0, 39, 3, [(0, 12)])) (by decide +kernel)]; rfl
theorem v_88_23 (xs : Option (List Int32)) (n : Nat) (b : Bool) (d : Nat) (ml : List Value) (t : T) (Q : Option Value → T → Prop) (st : List Value) : vc xs zH_88 (n + 1) b d 88 23 ml st t Q = vc xs zH_88 n true d 88 24 ml (.int 0 :: st) t Q := by
  rw [vc_q (o := (0, 0, 0, 0, [])) (by decide +kernel)]; rfl
theorem v_88_24 (xs : Option (List Int32)) (n : Nat) (b : Bool) (d : Nat) (ml : List Value) (t : T) (Q : Option Value → T → Prop) (v : Int32) (r : List Value) : vc xs zH_88 (n + 1) b d 88 24 ml (.int v :: r) t Q = vset ml 3 (.int v) (fun l => vc xs zH_88 n true d 88 25 l r t Q) := by
  rw [vc_q (o := (3, 0, 3, 0, [])) (by decide +kernel)]; rfl
theorem v_88_25 (xs : Option (List Int32)) (n : Nat) (d : Nat) (ml : List Value) (t : T) (Q : Option Value → T → Prop) (st : List Value) : vc xs zH_88 (n + 1) false d 88 25 ml st t Q = vgi ml 3 (fun v => vc xs zH_88 n true d 88 26 ml (.int v :: st) t Q) := by
  rw [vc_q (o := (1, 0, 3, 0, [])) (by decide +kernel)]; rfl
theorem h_88_25 (xs : Option (List Int32)) (n d : Nat) (ml st : List Value) (t : T) (Q : Option Value → T → Prop) : vc xs zH_88 (n + 1) true d 88 25 ml st t Q = twp xs d 88 25 ml st t Q := id rfl
theorem v_88_26 (xs : Option (List Int32)) (n : Nat) (b : Bool) (d : Nat) (ml : List Value) (t : T) (Q : Option Value → T → Prop) (st : List Value) : vc xs zH_88 (n + 1) b d 88 26 ml st t Q = vgi ml 2 (fun v => vc xs zH_88 n true d 88 27 ml (.int v :: st) t Q) := by
  rw [vc_q (o := (1, 0, 2, 0, [])) (by decide +kernel)]; rfl
theorem v_88_27 (xs : Option (List Int32)) (n : Nat) (b : Bool) (d : Nat) (ml : List Value) (t : T) (Q : Option Value → T → Prop) (u v : Int32) (r : List Value) : vc xs zH_88 (n + 1) b d 88 27 ml (.int v :: .int u :: r) t Q = (if u < v then vc xs zH_88 n true d 88 30 ml r t Q else vc xs zH_88 n true d 88 48 ml r t Q) := by
  rw [vc_q (o := (20, 0, 48, 3, [])) (by decide +kernel)]; rfl
theorem v_88_30 (xs : Option (List Int32)) (n : Nat) (b : Bool) (d : Nat) (ml : List Value) (t : T) (Q : Option Value → T → Prop) (st : List Value) : vc xs zH_88 (n + 1) b d 88 30 ml st t Q = vga ml 0 (fun v => vc xs zH_88 n true d 88 31 ml (.ref v :: st) t Q) := by
  rw [vc_q (o := (2, 0, 0, 0, [])) (by decide +kernel)]; rfl
theorem v_88_31 (xs : Option (List Int32)) (n : Nat) (b : Bool) (d : Nat) (ml : List Value) (t : T) (Q : Option Value → T → Prop) (st : List Value) : vc xs zH_88 (n + 1) b d 88 31 ml st t Q = vgi ml 1 (fun v => vc xs zH_88 n true d 88 32 ml (.int v :: st) t Q) := by
  rw [vc_q (o := (1, 0, 1, 0, [])) (by decide +kernel)]; rfl
theorem v_88_32 (xs : Option (List Int32)) (n : Nat) (b : Bool) (d : Nat) (ml : List Value) (t : T) (Q : Option Value → T → Prop) (st : List Value) : vc xs zH_88 (n + 1) b d 88 32 ml st t Q = vc xs zH_88 n true d 88 33 ml (.int 5 :: st) t Q := by
  rw [vc_q (o := (0, 5, 0, 0, [])) (by decide +kernel)]; rfl
theorem v_88_33 (xs : Option (List Int32)) (n : Nat) (b : Bool) (d : Nat) (ml : List Value) (t : T) (Q : Option Value → T → Prop) (st : List Value) : vc xs zH_88 (n + 1) b d 88 33 ml st t Q = vgi ml 3 (fun v => vc xs zH_88 n true d 88 34 ml (.int v :: st) t Q) := by
  rw [vc_q (o := (1, 0, 3, 0, [])) (by decide +kernel)]; rfl
theorem v_88_34 (xs : Option (List Int32)) (n : Nat) (b : Bool) (d : Nat) (ml : List Value) (t : T) (Q : Option Value → T → Prop) (st : List Value) : vc xs zH_88 (n + 1) b d 88 34 ml st t Q = vc xs zH_88 n true d 88 35 ml (.int 0 :: st) t Q := by
  rw [vc_q (o := (0, 0, 0, 0, [])) (by decide +kernel)]; rfl
theorem v_88_35 (xs : Option (List Int32)) (n : Nat) (b : Bool) (d : Nat) (ml : List Value) (t : T) (Q : Option Value → T → Prop) (st : List Value) : vc xs zH_88 (n + 1) b d 88 35 ml st t Q = (st.all zc1 = true ∧ vtk 3 st [] (fun as rest => rest.length ≤ 8 ∧ twc d 41 as t (fun r t' => vc xs zH_88 n true d 88 38 ml (r.toList ++ rest) t' Q))) := by
  rw [vc_q (o := (37, 0, 41, 3, [])) (by decide +kernel)]; rfl
theorem v_88_38 (xs : Option (List Int32)) (n : Nat) (b : Bool) (d : Nat) (ml : List Value) (t : T) (Q : Option Value → T → Prop) (st : List Value) : vc xs zH_88 (n + 1) b d 88 38 ml st t Q = vc xs zH_88 n true d 88 39 ml (.int 0 :: st) t Q := by
  rw [vc_q (o := (0, 0, 0, 0, [])) (by decide +kernel)]; rfl
theorem v_88_39 (xs : Option (List Int32)) (n : Nat) (b : Bool) (d : Nat) (ml : List Value) (t : T) (Q : Option Value → T → Prop) (st : List Value) : vc xs zH_88 (n + 1) b d 88 39 ml st t Q = (st.all zc1 = true ∧ vtk 4 st [] (fun as rest => rest.length ≤ 8 ∧ vrc as 12 (twc d 39 as t (fun r t' => vc xs zH_88 n true d 88 42 ml (r.toList ++ rest) t' Q)))) := by
  rw [vc_q (o := (36, 0, 39, 3, [(0, 12)])) (by decide +kernel)]; rfl
theorem v_88_42 (xs : Option (List Int32)) (n : Nat) (b : Bool) (d : Nat) (ml : List Value) (t : T) (Q : Option Value → T → Prop) (st : List Value) : vc xs zH_88 (n + 1) b d 88 42 ml st t Q = vgi ml 3 (fun v => vset ml 3 (.int (v + 1)) (fun l => vc xs zH_88 n true d 88 45 l st t Q)) := by
  rw [vc_q (o := (5, 1, 3, 0, [])) (by decide +kernel)]; rfl
theorem v_88_45 (xs : Option (List Int32)) (n : Nat) (b : Bool) (d : Nat) (ml : List Value) (t : T) (Q : Option Value → T → Prop) (st : List Value) : vc xs zH_88 (n + 1) b d 88 45 ml st t Q = vc xs zH_88 n true d 88 25 ml st t Q := by
  rw [vc_q (o := (22, 0, 25, 0, [])) (by decide +kernel)]; rfl
theorem v_88_48 (xs : Option (List Int32)) (n : Nat) (b : Bool) (d : Nat) (ml : List Value) (t : T) (Q : Option Value → T → Prop) (st : List Value) : vc xs zH_88 (n + 1) b d 88 48 ml st t Q = vga ml 0 (fun v => vc xs zH_88 n true d 88 49 ml (.ref v :: st) t Q) := by
  rw [vc_q (o := (2, 0, 0, 0, [])) (by decide +kernel)]; rfl
theorem v_88_49 (xs : Option (List Int32)) (n : Nat) (b : Bool) (d : Nat) (ml : List Value) (t : T) (Q : Option Value → T → Prop) (st : List Value) : vc xs zH_88 (n + 1) b d 88 49 ml st t Q = vgi ml 1 (fun v => vc xs zH_88 n true d 88 50 ml (.int v :: st) t Q) := by
  rw [vc_q (o := (1, 0, 1, 0, [])) (by decide +kernel)]; rfl
theorem v_88_50 (xs : Option (List Int32)) (n : Nat) (b : Bool) (d : Nat) (ml : List Value) (t : T) (Q : Option Value → T → Prop) (st : List Value) : vc xs zH_88 (n + 1) b d 88 50 ml st t Q = vc xs zH_88 n true d 88 51 ml (.int 5 :: st) t Q := by
  rw [vc_q (o := (0, 5, 0, 0, [])) (by decide +kernel)]; rfl
theorem v_88_51 (xs : Option (List Int32)) (n : Nat) (b : Bool) (d : Nat) (ml : List Value) (t : T) (Q : Option Value → T → Prop) (st : List Value) : vc xs zH_88 (n + 1) b d 88 51 ml st t Q = vgi ml 2 (fun v => vc xs zH_88 n true d 88 52 ml (.int v :: st) t Q) := by
  rw [vc_q (o := (1, 0, 2, 0, [])) (by decide +kernel)]; rfl
theorem v_88_52 (xs : Option (List Int32)) (n : Nat) (b : Bool) (d : Nat) (ml : List Value) (t : T) (Q : Option Value → T → Prop) (st : List Value) : vc xs zH_88 (n + 1) b d 88 52 ml st t Q = vc xs zH_88 n true d 88 53 ml (.int 0 :: st) t Q := by
  rw [vc_q (o := (0, 0, 0, 0, [])) (by decide +kernel)]; rfl
theorem v_88_53 (xs : Option (List Int32)) (n : Nat) (b : Bool) (d : Nat) (ml : List Value) (t : T) (Q : Option Value → T → Prop) (st : List Value) : vc xs zH_88 (n + 1) b d 88 53 ml st t Q = (st.all zc1 = true ∧ vtk 3 st [] (fun as rest => rest.length ≤ 8 ∧ twc d 41 as t (fun r t' => vc xs zH_88 n true d 88 56 ml (r.toList ++ rest) t' Q))) := by
  rw [vc_q (o := (37, 0, 41, 3, [])) (by decide +kernel)]; rfl
theorem v_88_56 (xs : Option (List Int32)) (n : Nat) (b : Bool) (d : Nat) (ml : List Value) (t : T) (Q : Option Value → T → Prop) (st : List Value) : vc xs zH_88 (n + 1) b d 88 56 ml st t Q = vc xs zH_88 n true d 88 57 ml (.int 1 :: st) t Q := by
  rw [vc_q (o := (0, 1, 0, 0, [])) (by decide +kernel)]; rfl
theorem v_88_57 (xs : Option (List Int32)) (n : Nat) (b : Bool) (d : Nat) (ml : List Value) (t : T) (Q : Option Value → T → Prop) (st : List Value) : vc xs zH_88 (n + 1) b d 88 57 ml st t Q = (st.all zc1 = true ∧ vtk 4 st [] (fun as rest => rest.length ≤ 8 ∧ vrc as 12 (twc d 39 as t (fun r t' => vc xs zH_88 n true d 88 60 ml (r.toList ++ rest) t' Q)))) := by
  rw [vc_q (o := (36, 0, 39, 3, [(0, 12)])) (by decide +kernel)]; rfl
theorem v_88_60 (xs : Option (List Int32)) (n : Nat) (b : Bool) (d : Nat) (ml : List Value) (t : T) (Q : Option Value → T → Prop) (st : List Value) : vc xs zH_88 (n + 1) b d 88 60 ml st t Q = vc xs zH_88 n true d 88 61 ml (.int 1 :: st) t Q := by
  rw [vc_q (o := (0, 1, 0, 0, [])) (by decide +kernel)]; rfl
theorem v_88_61 (xs : Option (List Int32)) (n : Nat) (b : Bool) (d : Nat) (ml : List Value) (t : T) (Q : Option Value → T → Prop) (v : Int32) : vc xs zH_88 (n + 1) b d 88 61 ml [.int v] t Q = ((v = 0 ∨ v = 1) ∧ Q (some (.int v)) t) := by
  rw [vc_q (o := (41, 0, 0, 0, [])) (by decide +kernel)]; rfl
def zH_89 : List Nat := [19, 46, 129]
theorem v_89_0 (xs : Option (List Int32)) (n : Nat) (b : Bool) (d : Nat) (ml : List Value) (t : T) (Q : Option Value → T → Prop) (st : List Value) : vc xs zH_89 (n + 1) b d 89 0 ml st t Q = vga ml 0 (fun v => vc xs zH_89 n true d 89 1 ml (.ref v :: st) t Q) := by
  rw [vc_q (o := (2, 0, 0, 0, [])) (by decide +kernel)]; rfl
theorem v_89_1 (xs : Option (List Int32)) (n : Nat) (b : Bool) (d : Nat) (ml : List Value) (t : T) (Q : Option Value → T → Prop) (st : List Value) : vc xs zH_89 (n + 1) b d 89 1 ml st t Q = vgi ml 1 (fun v => vc xs zH_89 n true d 89 2 ml (.int v :: st) t Q) := by
  rw [vc_q (o := (1, 0, 1, 0, [])) (by decide +kernel)]; rfl
theorem v_89_2 (xs : Option (List Int32)) (n : Nat) (b : Bool) (d : Nat) (ml : List Value) (t : T) (Q : Option Value → T → Prop) (st : List Value) : vc xs zH_89 (n + 1) b d 89 2 ml st t Q = vc xs zH_89 n true d 89 5 ml (.int 182 :: st) t Q := by
  rw [vc_q (o := (0, 182, 2, 0, [])) (by decide +kernel)]; rfl
theorem v_89_5 (xs : Option (List Int32)) (n : Nat) (b : Bool) (d : Nat) (ml : List Value) (t : T) (Q : Option Value → T → Prop) (st : List Value) : vc xs zH_89 (n + 1) b d 89 5 ml st t Q = (st.all zc1 = true ∧ vtk 3 st [] (fun as rest => rest.length ≤ 8 ∧ vrc as 12 (twc d 44 as t (fun r t' => vc xs zH_89 n true d 89 8 ml (r.toList ++ rest) t' Q)))) := by
  rw [vc_q (o := (36, 0, 44, 2, [(0, 12)])) (by decide +kernel)]; rfl
theorem v_89_8 (xs : Option (List Int32)) (n : Nat) (b : Bool) (d : Nat) (ml : List Value) (t : T) (Q : Option Value → T → Prop) (st : List Value) : vc xs zH_89 (n + 1) b d 89 8 ml st t Q = vga ml 0 (fun v => vc xs zH_89 n true d 89 9 ml (.ref v :: st) t Q) := by
  rw [vc_q (o := (2, 0, 0, 0, [])) (by decide +kernel)]; rfl
theorem v_89_9 (xs : Option (List Int32)) (n : Nat) (b : Bool) (d : Nat) (ml : List Value) (t : T) (Q : Option Value → T → Prop) (st : List Value) : vc xs zH_89 (n + 1) b d 89 9 ml st t Q = vgi ml 1 (fun v => vc xs zH_89 n true d 89 10 ml (.int v :: st) t Q) := by
  rw [vc_q (o := (1, 0, 1, 0, [])) (by decide +kernel)]; rfl
theorem v_89_10 (xs : Option (List Int32)) (n : Nat) (b : Bool) (d : Nat) (ml : List Value) (t : T) (Q : Option Value → T → Prop) (st : List Value) : vc xs zH_89 (n + 1) b d 89 10 ml st t Q = (st.all zc1 = true ∧ vtk 2 st [] (fun as rest => rest.length ≤ 8 ∧ vrc as 12 (twc d 40 as t (fun r t' => vc xs zH_89 n true d 89 13 ml (r.toList ++ rest) t' Q)))) := by
  rw [vc_q (o := (36, 0, 40, 1, [(0, 12)])) (by decide +kernel)]; rfl
theorem v_89_13 (xs : Option (List Int32)) (n : Nat) (b : Bool) (d : Nat) (ml : List Value) (t : T) (Q : Option Value → T → Prop) (v : Int32) (r : List Value) : vc xs zH_89 (n + 1) b d 89 13 ml (.int v :: r) t Q = vset ml 3 (.int v) (fun l => vc xs zH_89 n true d 89 14 l r t Q) := by
  rw [vc_q (o := (3, 0, 3, 0, [])) (by decide +kernel)]; rfl
theorem v_89_14 (xs : Option (List Int32)) (n : Nat) (b : Bool) (d : Nat) (ml : List Value) (t : T) (Q : Option Value → T → Prop) (st : List Value) : vc xs zH_89 (n + 1) b d 89 14 ml st t Q = vc xs zH_89 n true d 89 15 ml (.int 4 :: st) t Q := by
  rw [vc_q (o := (0, 4, 0, 0, [])) (by decide +kernel)]; rfl
theorem v_89_15 (xs : Option (List Int32)) (n : Nat) (b : Bool) (d : Nat) (ml : List Value) (t : T) (Q : Option Value → T → Prop) (st : List Value) : vc xs zH_89 (n + 1) b d 89 15 ml st t Q = vgi ml 2 (fun v => vc xs zH_89 n true d 89 16 ml (.int v :: st) t Q) := by
  rw [vc_q (o := (1, 0, 2, 0, [])) (by decide +kernel)]; rfl
theorem v_89_16 (xs : Option (List Int32)) (n : Nat) (b : Bool) (d : Nat) (ml : List Value) (t : T) (Q : Option Value → T → Prop) (u v : Int32) (r : List Value) : vc xs zH_89 (n + 1) b d 89 16 ml (.int v :: .int u :: r) t Q = vc xs zH_89 n true d 89 17 ml (.int (u * v) :: r) t Q := by
  rw [vc_q (o := (8, 0, 0, 0, [])) (by decide +kernel)]; rfl
theorem v_89_17 (xs : Option (List Int32)) (n : Nat) (b : Bool) (d : Nat) (ml : List Value) (t : T) (Q : Option Value → T → Prop) (v : Int32) (r : List Value) : vc xs zH_89 (n + 1) b d 89 17 ml (.int v :: r) t Q = vset ml 4 (.int v) (fun l => vc xs zH_89 n true d 89 19 l r t Q) := by
  rw [vc_q (o := (3, 0, 4, 1, [])) (by decide +kernel)]; rfl
theorem v_89_19 (xs : Option (List Int32)) (n : Nat) (d : Nat) (ml : List Value) (t : T) (Q : Option Value → T → Prop) (st : List Value) : vc xs zH_89 (n + 1) false d 89 19 ml st t Q = vgi ml 4 (fun v => vc xs zH_89 n true d 89 21 ml (.int v :: st) t Q) := by
  rw [vc_q (o := (1, 0, 4, 1, [])) (by decide +kernel)]; rfl
theorem h_89_19 (xs : Option (List Int32)) (n d : Nat) (ml st : List Value) (t : T) (Q : Option Value → T → Prop) : vc xs zH_89 (n + 1) true d 89 19 ml st t Q = twp xs d 89 19 ml st t Q := id rfl
theorem v_89_21 (xs : Option (List Int32)) (n : Nat) (b : Bool) (d : Nat) (ml : List Value) (t : T) (Q : Option Value → T → Prop) (st : List Value) : vc xs zH_89 (n + 1) b d 89 21 ml st t Q = vc xs zH_89 n true d 89 22 ml (.int 4 :: st) t Q := by
  rw [vc_q (o := (0, 4, 0, 0, [])) (by decide +kernel)]; rfl
theorem v_89_22 (xs : Option (List Int32)) (n : Nat) (b : Bool) (d : Nat) (ml : List Value) (t : T) (Q : Option Value → T → Prop) (st : List Value) : vc xs zH_89 (n + 1) b d 89 22 ml st t Q = vgi ml 2 (fun v => vc xs zH_89 n true d 89 23 ml (.int v :: st) t Q) := by
  rw [vc_q (o := (1, 0, 2, 0, [])) (by decide +kernel)]; rfl
theorem v_89_23 (xs : Option (List Int32)) (n : Nat) (b : Bool) (d : Nat) (ml : List Value) (t : T) (Q : Option Value → T → Prop) (u v : Int32) (r : List Value) : vc xs zH_89 (n + 1) b d 89 23 ml (.int v :: .int u :: r) t Q = vc xs zH_89 n true d 89 24 ml (.int (u * v) :: r) t Q := by
  rw [vc_q (o := (8, 0, 0, 0, [])) (by decide +kernel)]; rfl
theorem v_89_24 (xs : Option (List Int32)) (n : Nat) (b : Bool) (d : Nat) (ml : List Value) (t : T) (Q : Option Value → T → Prop) (st : List Value) : vc xs zH_89 (n + 1) b d 89 24 ml st t Q = vga ml 0 (fun v => vc xs zH_89 n true d 89 25 ml (.ref v :: st) t Q) := by
  rw [vc_q (o := (2, 0, 0, 0, [])) (by decide +kernel)]; rfl
theorem v_89_25 (xs : Option (List Int32)) (n : Nat) (b : Bool) (d : Nat) (ml : List Value) (t : T) (Q : Option Value → T → Prop) (u : Nat) (r : List Value) : vc xs zH_89 (n + 1) b d 89 25 ml (.ref u :: r) t Q = (vtag u = 12 ∧ vc xs zH_89 n true d 89 28 ml (.ref (tref t u 19) :: r) t Q) := by
  rw [vc_q (o := (25, 0, 12, 19, [])) (by decide +kernel)]; rfl
theorem v_89_28 (xs : Option (List Int32)) (n : Nat) (b : Bool) (d : Nat) (ml : List Value) (t : T) (Q : Option Value → T → Prop) (st : List Value) : vc xs zH_89 (n + 1) b d 89 28 ml st t Q = vgi ml 2 (fun v => vc xs zH_89 n true d 89 29 ml (.int v :: st) t Q) := by
  rw [vc_q (o := (1, 0, 2, 0, [])) (by decide +kernel)]; rfl
theorem v_89_29 (xs : Option (List Int32)) (n : Nat) (b : Bool) (d : Nat) (ml : List Value) (t : T) (Q : Option Value → T → Prop) (v : Int32) (u : Nat) (r : List Value) : vc xs zH_89 (n + 1) b d 89 29 ml (.int v :: .ref u :: r) t Q = (vtag u = 100 ∧ vinb v (vlen u) ∧ vc xs zH_89 n true d 89 30 ml (.int (t.1 u v.toNatClampNeg) :: r) t Q) := by
  rw [vc_q (o := (29, 0, 0, 0, [])) (by decide +kernel)]; rfl
theorem v_89_30 (xs : Option (List Int32)) (n : Nat) (b : Bool) (d : Nat) (ml : List Value) (t : T) (Q : Option Value → T → Prop) (u v : Int32) (r : List Value) : vc xs zH_89 (n + 1) b d 89 30 ml (.int v :: .int u :: r) t Q = vc xs zH_89 n true d 89 31 ml (.int (u + v) :: r) t Q := by
  rw [vc_q (o := (6, 0, 0, 0, [])) (by decide +kernel)]; rfl
theorem v_89_31 (xs : Option (List Int32)) (n : Nat) (b : Bool) (d : Nat) (ml : List Value) (t : T) (Q : Option Value → T → Prop) (u v : Int32) (r : List Value) : vc xs zH_89 (n + 1) b d 89 31 ml (.int v :: .int u :: r) t Q = (if u < v then vc xs zH_89 n true d 89 34 ml r t Q else vc xs zH_89 n true d 89 180 ml r t Q) := by
  rw [vc_q (o := (20, 0, 180, 3, [])) (by decide +kernel)]; rfl
theorem v_89_34 (xs : Option (List Int32)) (n : Nat) (b : Bool) (d : Nat) (ml : List Value) (t : T) (Q : Option Value → T → Prop) (st : List Value) : vc xs zH_89 (n + 1) b d 89 34 ml st t Q = vga ml 0 (fun v => vc xs zH_89 n true d 89 35 ml (.ref v :: st) t Q) := by
  rw [vc_q (o := (2, 0, 0, 0, [])) (by decide +kernel)]; rfl
theorem v_89_35 (xs : Option (List Int32)) (n : Nat) (b : Bool) (d : Nat) (ml : List Value) (t : T) (Q : Option Value → T → Prop) (u : Nat) (r : List Value) : vc xs zH_89 (n + 1) b d 89 35 ml (.ref u :: r) t Q = (vtag u = 12 ∧ vc xs zH_89 n true d 89 38 ml (.ref (tref t u 20) :: r) t Q) := by
  rw [vc_q (o := (25, 0, 12, 20, [])) (by decide +kernel)]; rfl
theorem v_89_38 (xs : Option (List Int32)) (n : Nat) (b : Bool) (d : Nat) (ml : List Value) (t : T) (Q : Option Value → T → Prop) (st : List Value) : vc xs zH_89 (n + 1) b d 89 38 ml st t Q = vgi ml 4 (fun v => vc xs zH_89 n true d 89 40 ml (.int v :: st) t Q) := by
  rw [vc_q (o := (1, 0, 4, 1, [])) (by decide +kernel)]; rfl
theorem v_89_40 (xs : Option (List Int32)) (n : Nat) (b : Bool) (d : Nat) (ml : List Value) (t : T) (Q : Option Value → T → Prop) (v : Int32) (u : Nat) (r : List Value) : vc xs zH_89 (n + 1) b d 89 40 ml (.int v :: .ref u :: r) t Q = (vtag u = 100 ∧ vinb v (vlen u) ∧ vc xs zH_89 n true d 89 41 ml (.int (t.1 u v.toNatClampNeg) :: r) t Q) := by
  rw [vc_q (o := (29, 0, 0, 0, [])) (by decide +kernel)]; rfl
theorem v_89_41 (xs : Option (List Int32)) (n : Nat) (b : Bool) (d : Nat) (ml : List Value) (t : T) (Q : Option Value → T → Prop) (v : Int32) (r : List Value) : vc xs zH_89 (n + 1) b d 89 41 ml (.int v :: r) t Q = vset ml 5 (.int v) (fun l => vc xs zH_89 n true d 89 43 l r t Q) := by
  rw [vc_q (o := (3, 0, 5, 1, [])) (by decide +kernel)]; rfl
theorem v_89_43 (xs : Option (List Int32)) (n : Nat) (b : Bool) (d : Nat) (ml : List Value) (t : T) (Q : Option Value → T → Prop) (st : List Value) : vc xs zH_89 (n + 1) b d 89 43 ml st t Q = vc xs zH_89 n true d 89 44 ml (.int 0 :: st) t Q := by
  rw [vc_q (o := (0, 0, 0, 0, [])) (by decide +kernel)]; rfl
theorem v_89_44 (xs : Option (List Int32)) (n : Nat) (b : Bool) (d : Nat) (ml : List Value) (t : T) (Q : Option Value → T → Prop) (v : Int32) (r : List Value) : vc xs zH_89 (n + 1) b d 89 44 ml (.int v :: r) t Q = vset ml 6 (.int v) (fun l => vc xs zH_89 n true d 89 46 l r t Q) := by
  rw [vc_q (o := (3, 0, 6, 1, [])) (by decide +kernel)]; rfl
theorem v_89_46 (xs : Option (List Int32)) (n : Nat) (d : Nat) (ml : List Value) (t : T) (Q : Option Value → T → Prop) (st : List Value) : vc xs zH_89 (n + 1) false d 89 46 ml st t Q = vgi ml 6 (fun v => vc xs zH_89 n true d 89 48 ml (.int v :: st) t Q) := by
  rw [vc_q (o := (1, 0, 6, 1, [])) (by decide +kernel)]; rfl
theorem h_89_46 (xs : Option (List Int32)) (n d : Nat) (ml st : List Value) (t : T) (Q : Option Value → T → Prop) : vc xs zH_89 (n + 1) true d 89 46 ml st t Q = twp xs d 89 46 ml st t Q := id rfl
theorem v_89_48 (xs : Option (List Int32)) (n : Nat) (b : Bool) (d : Nat) (ml : List Value) (t : T) (Q : Option Value → T → Prop) (st : List Value) : vc xs zH_89 (n + 1) b d 89 48 ml st t Q = vc xs zH_89 n true d 89 50 ml (.int 36 :: st) t Q := by
  rw [vc_q (o := (0, 36, 1, 0, [])) (by decide +kernel)]; rfl
theorem v_89_50 (xs : Option (List Int32)) (n : Nat) (b : Bool) (d : Nat) (ml : List Value) (t : T) (Q : Option Value → T → Prop) (u v : Int32) (r : List Value) : vc xs zH_89 (n + 1) b d 89 50 ml (.int v :: .int u :: r) t Q = (if u < v then vc xs zH_89 n true d 89 53 ml r t Q else vc xs zH_89 n true d 89 174 ml r t Q) := by
  rw [vc_q (o := (20, 0, 174, 3, [])) (by decide +kernel)]; rfl
theorem v_89_53 (xs : Option (List Int32)) (n : Nat) (b : Bool) (d : Nat) (ml : List Value) (t : T) (Q : Option Value → T → Prop) (st : List Value) : vc xs zH_89 (n + 1) b d 89 53 ml st t Q = vgi ml 6 (fun v => vc xs zH_89 n true d 89 55 ml (.int v :: st) t Q) := by
  rw [vc_q (o := (1, 0, 6, 1, [])) (by decide +kernel)]; rfl
theorem v_89_55 (xs : Option (List Int32)) (n : Nat) (b : Bool) (d : Nat) (ml : List Value) (t : T) (Q : Option Value → T → Prop) (st : List Value) : vc xs zH_89 (n + 1) b d 89 55 ml st t Q = vc xs zH_89 n true d 89 57 ml (.int 6 :: st) t Q := by
  rw [vc_q (o := (0, 6, 1, 0, [])) (by decide +kernel)]; rfl
theorem v_89_57 (xs : Option (List Int32)) (n : Nat) (b : Bool) (d : Nat) (ml : List Value) (t : T) (Q : Option Value → T → Prop) (u v : Int32) (r : List Value) : vc xs zH_89 (n + 1) b d 89 57 ml (.int v :: .int u :: r) t Q = (¬ v = 0 ∧ vc xs zH_89 n true d 89 58 ml (.int (u / v) :: r) t Q) := by
  rw [vc_q (o := (14, 0, 0, 0, [])) (by decide +kernel)]; rfl
theorem v_89_58 (xs : Option (List Int32)) (n : Nat) (b : Bool) (d : Nat) (ml : List Value) (t : T) (Q : Option Value → T → Prop) (v : Int32) (r : List Value) : vc xs zH_89 (n + 1) b d 89 58 ml (.int v :: r) t Q = vset ml 7 (.int v) (fun l => vc xs zH_89 n true d 89 60 l r t Q) := by
  rw [vc_q (o := (3, 0, 7, 1, [])) (by decide +kernel)]; rfl
theorem v_89_60 (xs : Option (List Int32)) (n : Nat) (b : Bool) (d : Nat) (ml : List Value) (t : T) (Q : Option Value → T → Prop) (st : List Value) : vc xs zH_89 (n + 1) b d 89 60 ml st t Q = vgi ml 6 (fun v => vc xs zH_89 n true d 89 62 ml (.int v :: st) t Q) := by
  rw [vc_q (o := (1, 0, 6, 1, [])) (by decide +kernel)]; rfl
theorem v_89_62 (xs : Option (List Int32)) (n : Nat) (b : Bool) (d : Nat) (ml : List Value) (t : T) (Q : Option Value → T → Prop) (st : List Value) : vc xs zH_89 (n + 1) b d 89 62 ml st t Q = vc xs zH_89 n true d 89 64 ml (.int 6 :: st) t Q := by
  rw [vc_q (o := (0, 6, 1, 0, [])) (by decide +kernel)]; rfl
theorem v_89_64 (xs : Option (List Int32)) (n : Nat) (b : Bool) (d : Nat) (ml : List Value) (t : T) (Q : Option Value → T → Prop) (u v : Int32) (r : List Value) : vc xs zH_89 (n + 1) b d 89 64 ml (.int v :: .int u :: r) t Q = (¬ v = 0 ∧ vc xs zH_89 n true d 89 65 ml (.int (u - u / v * v) :: r) t Q) := by
  rw [vc_q (o := (15, 0, 0, 0, [])) (by decide +kernel)]; rfl
theorem v_89_65 (xs : Option (List Int32)) (n : Nat) (b : Bool) (d : Nat) (ml : List Value) (t : T) (Q : Option Value → T → Prop) (v : Int32) (r : List Value) : vc xs zH_89 (n + 1) b d 89 65 ml (.int v :: r) t Q = vset ml 8 (.int v) (fun l => vc xs zH_89 n true d 89 67 l r t Q) := by
  rw [vc_q (o := (3, 0, 8, 1, [])) (by decide +kernel)]; rfl
theorem v_89_67 (xs : Option (List Int32)) (n : Nat) (b : Bool) (d : Nat) (ml : List Value) (t : T) (Q : Option Value → T → Prop) (st : List Value) : vc xs zH_89 (n + 1) b d 89 67 ml st t Q = vgi ml 5 (fun v => vc xs zH_89 n true d 89 69 ml (.int v :: st) t Q) := by
  rw [vc_q (o := (1, 0, 5, 1, [])) (by decide +kernel)]; rfl
theorem v_89_69 (xs : Option (List Int32)) (n : Nat) (b : Bool) (d : Nat) (ml : List Value) (t : T) (Q : Option Value → T → Prop) (st : List Value) : vc xs zH_89 (n + 1) b d 89 69 ml st t Q = vc xs zH_89 n true d 89 70 ml (.int 2 :: st) t Q := by
  rw [vc_q (o := (0, 2, 0, 0, [])) (by decide +kernel)]; rfl
theorem v_89_70 (xs : Option (List Int32)) (n : Nat) (b : Bool) (d : Nat) (ml : List Value) (t : T) (Q : Option Value → T → Prop) (u v : Int32) (r : List Value) : vc xs zH_89 (n + 1) b d 89 70 ml (.int v :: .int u :: r) t Q = (if u < v then vc xs zH_89 n true d 89 73 ml r t Q else vc xs zH_89 n true d 89 86 ml r t Q) := by
  rw [vc_q (o := (20, 0, 86, 3, [])) (by decide +kernel)]; rfl
theorem v_89_73 (xs : Option (List Int32)) (n : Nat) (b : Bool) (d : Nat) (ml : List Value) (t : T) (Q : Option Value → T → Prop) (st : List Value) : vc xs zH_89 (n + 1) b d 89 73 ml st t Q = vgi ml 6 (fun v => vc xs zH_89 n true d 89 75 ml (.int v :: st) t Q) := by
  rw [vc_q (o := (1, 0, 6, 1, [])) (by decide +kernel)]; rfl
theorem v_89_75 (xs : Option (List Int32)) (n : Nat) (b : Bool) (d : Nat) (ml : List Value) (t : T) (Q : Option Value → T → Prop) (u : Int32) (r : List Value) : vc xs zH_89 (n + 1) b d 89 75 ml (.int u :: r) t Q = (if u = 0 then vc xs zH_89 n true d 89 78 ml r t Q else vc xs zH_89 n true d 89 82 ml r t Q) := by
  rw [vc_q (o := (21, 0, 82, 1, [])) (by decide +kernel)]; rfl
theorem v_89_78 (xs : Option (List Int32)) (n : Nat) (b : Bool) (d : Nat) (ml : List Value) (t : T) (Q : Option Value → T → Prop) (st : List Value) : vc xs zH_89 (n + 1) b d 89 78 ml st t Q = vc xs zH_89 n true d 89 79 ml (.int 1 :: st) t Q := by
  rw [vc_q (o := (0, 1, 0, 0, [])) (by decide +kernel)]; rfl
theorem v_89_79 (xs : Option (List Int32)) (n : Nat) (b : Bool) (d : Nat) (ml : List Value) (t : T) (Q : Option Value → T → Prop) (st : List Value) : vc xs zH_89 (n + 1) b d 89 79 ml st t Q = vc xs zH_89 n true d 89 129 ml st t Q := by
  rw [vc_q (o := (22, 0, 129, 0, [])) (by decide +kernel)]; rfl
theorem v_89_82 (xs : Option (List Int32)) (n : Nat) (b : Bool) (d : Nat) (ml : List Value) (t : T) (Q : Option Value → T → Prop) (st : List Value) : vc xs zH_89 (n + 1) b d 89 82 ml st t Q = vc xs zH_89 n true d 89 83 ml (.int 0 :: st) t Q := by
  rw [vc_q (o := (0, 0, 0, 0, [])) (by decide +kernel)]; rfl
theorem v_89_83 (xs : Option (List Int32)) (n : Nat) (b : Bool) (d : Nat) (ml : List Value) (t : T) (Q : Option Value → T → Prop) (st : List Value) : vc xs zH_89 (n + 1) b d 89 83 ml st t Q = vc xs zH_89 n true d 89 129 ml st t Q := by
  rw [vc_q (o := (22, 0, 129, 0, [])) (by decide +kernel)]; rfl
theorem v_89_86 (xs : Option (List Int32)) (n : Nat) (b : Bool) (d : Nat) (ml : List Value) (t : T) (Q : Option Value → T → Prop) (st : List Value) : vc xs zH_89 (n + 1) b d 89 86 ml st t Q = vgi ml 5 (fun v => vc xs zH_89 n true d 89 88 ml (.int v :: st) t Q) := by
  rw [vc_q (o := (1, 0, 5, 1, [])) (by decide +kernel)]; rfl
theorem v_89_88 (xs : Option (List Int32)) (n : Nat) (b : Bool) (d : Nat) (ml : List Value) (t : T) (Q : Option Value → T → Prop) (st : List Value) : vc xs zH_89 (n + 1) b d 89 88 ml st t Q = vc xs zH_89 n true d 89 90 ml (.int 6 :: st) t Q := by
  rw [vc_q (o := (0, 6, 1, 0, [])) (by decide +kernel)]; rfl
theorem v_89_90 (xs : Option (List Int32)) (n : Nat) (b : Bool) (d : Nat) (ml : List Value) (t : T) (Q : Option Value → T → Prop) (u v : Int32) (r : List Value) : vc xs zH_89 (n + 1) b d 89 90 ml (.int v :: .int u :: r) t Q = (if u < v then vc xs zH_89 n true d 89 93 ml r t Q else vc xs zH_89 n true d 89 112 ml r t Q) := by
  rw [vc_q (o := (20, 0, 112, 3, [])) (by decide +kernel)]; rfl
theorem v_89_93 (xs : Option (List Int32)) (n : Nat) (b : Bool) (d : Nat) (ml : List Value) (t : T) (Q : Option Value → T → Prop) (st : List Value) : vc xs zH_89 (n + 1) b d 89 93 ml st t Q = vgi ml 7 (fun v => vc xs zH_89 n true d 89 95 ml (.int v :: st) t Q) := by
  rw [vc_q (o := (1, 0, 7, 1, [])) (by decide +kernel)]; rfl
theorem v_89_95 (xs : Option (List Int32)) (n : Nat) (b : Bool) (d : Nat) (ml : List Value) (t : T) (Q : Option Value → T → Prop) (st : List Value) : vc xs zH_89 (n + 1) b d 89 95 ml st t Q = vgi ml 3 (fun v => vc xs zH_89 n true d 89 96 ml (.int v :: st) t Q) := by
  rw [vc_q (o := (1, 0, 3, 0, [])) (by decide +kernel)]; rfl
theorem v_89_96 (xs : Option (List Int32)) (n : Nat) (b : Bool) (d : Nat) (ml : List Value) (t : T) (Q : Option Value → T → Prop) (u v : Int32) (r : List Value) : vc xs zH_89 (n + 1) b d 89 96 ml (.int v :: .int u :: r) t Q = (if u < v then vc xs zH_89 n true d 89 99 ml r t Q else vc xs zH_89 n true d 89 108 ml r t Q) := by
  rw [vc_q (o := (20, 0, 108, 3, [])) (by decide +kernel)]; rfl
theorem v_89_99 (xs : Option (List Int32)) (n : Nat) (b : Bool) (d : Nat) (ml : List Value) (t : T) (Q : Option Value → T → Prop) (st : List Value) : vc xs zH_89 (n + 1) b d 89 99 ml st t Q = vgi ml 8 (fun v => vc xs zH_89 n true d 89 101 ml (.int v :: st) t Q) := by
  rw [vc_q (o := (1, 0, 8, 1, [])) (by decide +kernel)]; rfl
theorem v_89_101 (xs : Option (List Int32)) (n : Nat) (b : Bool) (d : Nat) (ml : List Value) (t : T) (Q : Option Value → T → Prop) (u : Int32) (r : List Value) : vc xs zH_89 (n + 1) b d 89 101 ml (.int u :: r) t Q = (if u = 0 then vc xs zH_89 n true d 89 104 ml r t Q else vc xs zH_89 n true d 89 108 ml r t Q) := by
  rw [vc_q (o := (21, 0, 108, 1, [])) (by decide +kernel)]; rfl
theorem v_89_104 (xs : Option (List Int32)) (n : Nat) (b : Bool) (d : Nat) (ml : List Value) (t : T) (Q : Option Value → T → Prop) (st : List Value) : vc xs zH_89 (n + 1) b d 89 104 ml st t Q = vc xs zH_89 n true d 89 105 ml (.int 1 :: st) t Q := by
  rw [vc_q (o := (0, 1, 0, 0, [])) (by decide +kernel)]; rfl
theorem v_89_105 (xs : Option (List Int32)) (n : Nat) (b : Bool) (d : Nat) (ml : List Value) (t : T) (Q : Option Value → T → Prop) (st : List Value) : vc xs zH_89 (n + 1) b d 89 105 ml st t Q = vc xs zH_89 n true d 89 129 ml st t Q := by
  rw [vc_q (o := (22, 0, 129, 0, [])) (by decide +kernel)]; rfl
theorem v_89_108 (xs : Option (List Int32)) (n : Nat) (b : Bool) (d : Nat) (ml : List Value) (t : T) (Q : Option Value → T → Prop) (st : List Value) : vc xs zH_89 (n + 1) b d 89 108 ml st t Q = vc xs zH_89 n true d 89 109 ml (.int 0 :: st) t Q := by
  rw [vc_q (o := (0, 0, 0, 0, [])) (by decide +kernel)]; rfl
theorem v_89_109 (xs : Option (List Int32)) (n : Nat) (b : Bool) (d : Nat) (ml : List Value) (t : T) (Q : Option Value → T → Prop) (st : List Value) : vc xs zH_89 (n + 1) b d 89 109 ml st t Q = vc xs zH_89 n true d 89 129 ml st t Q := by
  rw [vc_q (o := (22, 0, 129, 0, [])) (by decide +kernel)]; rfl
theorem v_89_112 (xs : Option (List Int32)) (n : Nat) (b : Bool) (d : Nat) (ml : List Value) (t : T) (Q : Option Value → T → Prop) (st : List Value) : vc xs zH_89 (n + 1) b d 89 112 ml st t Q = vgi ml 7 (fun v => vc xs zH_89 n true d 89 114 ml (.int v :: st) t Q) := by
  rw [vc_q (o := (1, 0, 7, 1, [])) (by decide +kernel)]; rfl
theorem v_89_114 (xs : Option (List Int32)) (n : Nat) (b : Bool) (d : Nat) (ml : List Value) (t : T) (Q : Option Value → T → Prop) (st : List Value) : vc xs zH_89 (n + 1) b d 89 114 ml st t Q = vgi ml 3 (fun v => vc xs zH_89 n true d 89 115 ml (.int v :: st) t Q) := by
  rw [vc_q (o := (1, 0, 3, 0, [])) (by decide +kernel)]; rfl
theorem v_89_115 (xs : Option (List Int32)) (n : Nat) (b : Bool) (d : Nat) (ml : List Value) (t : T) (Q : Option Value → T → Prop) (u v : Int32) (r : List Value) : vc xs zH_89 (n + 1) b d 89 115 ml (.int v :: .int u :: r) t Q = (if u < v then vc xs zH_89 n true d 89 118 ml r t Q else vc xs zH_89 n true d 89 128 ml r t Q) := by
  rw [vc_q (o := (20, 0, 128, 3, [])) (by decide +kernel)]; rfl
theorem v_89_118 (xs : Option (List Int32)) (n : Nat) (b : Bool) (d : Nat) (ml : List Value) (t : T) (Q : Option Value → T → Prop) (st : List Value) : vc xs zH_89 (n + 1) b d 89 118 ml st t Q = vgi ml 8 (fun v => vc xs zH_89 n true d 89 120 ml (.int v :: st) t Q) := by
  rw [vc_q (o := (1, 0, 8, 1, [])) (by decide +kernel)]; rfl
theorem v_89_120 (xs : Option (List Int32)) (n : Nat) (b : Bool) (d : Nat) (ml : List Value) (t : T) (Q : Option Value → T → Prop) (st : List Value) : vc xs zH_89 (n + 1) b d 89 120 ml st t Q = vgi ml 3 (fun v => vc xs zH_89 n true d 89 121 ml (.int v :: st) t Q) := by
  rw [vc_q (o := (1, 0, 3, 0, [])) (by decide +kernel)]; rfl
theorem v_89_121 (xs : Option (List Int32)) (n : Nat) (b : Bool) (d : Nat) (ml : List Value) (t : T) (Q : Option Value → T → Prop) (u v : Int32) (r : List Value) : vc xs zH_89 (n + 1) b d 89 121 ml (.int v :: .int u :: r) t Q = (if u < v then vc xs zH_89 n true d 89 124 ml r t Q else vc xs zH_89 n true d 89 128 ml r t Q) := by
  rw [vc_q (o := (20, 0, 128, 3, [])) (by decide +kernel)]; rfl
theorem v_89_124 (xs : Option (List Int32)) (n : Nat) (b : Bool) (d : Nat) (ml : List Value) (t : T) (Q : Option Value → T → Prop) (st : List Value) : vc xs zH_89 (n + 1) b d 89 124 ml st t Q = vc xs zH_89 n true d 89 125 ml (.int 1 :: st) t Q := by
  rw [vc_q (o := (0, 1, 0, 0, [])) (by decide +kernel)]; rfl
theorem v_89_125 (xs : Option (List Int32)) (n : Nat) (b : Bool) (d : Nat) (ml : List Value) (t : T) (Q : Option Value → T → Prop) (st : List Value) : vc xs zH_89 (n + 1) b d 89 125 ml st t Q = vc xs zH_89 n true d 89 129 ml st t Q := by
  rw [vc_q (o := (22, 0, 129, 0, [])) (by decide +kernel)]; rfl
theorem v_89_128 (xs : Option (List Int32)) (n : Nat) (b : Bool) (d : Nat) (ml : List Value) (t : T) (Q : Option Value → T → Prop) (st : List Value) : vc xs zH_89 (n + 1) b d 89 128 ml st t Q = vc xs zH_89 n true d 89 129 ml (.int 0 :: st) t Q := by
  rw [vc_q (o := (0, 0, 0, 0, [])) (by decide +kernel)]; rfl
theorem v_89_129 (xs : Option (List Int32)) (n : Nat) (d : Nat) (ml : List Value) (t : T) (Q : Option Value → T → Prop) (v : Int32) (r : List Value) : vc xs zH_89 (n + 1) false d 89 129 ml (.int v :: r) t Q = vset ml 9 (.int v) (fun l => vc xs zH_89 n true d 89 131 l r t Q) := by
  rw [vc_q (o := (3, 0, 9, 1, [])) (by decide +kernel)]; rfl
theorem h_89_129 (xs : Option (List Int32)) (n d : Nat) (ml st : List Value) (t : T) (Q : Option Value → T → Prop) : vc xs zH_89 (n + 1) true d 89 129 ml st t Q = twp xs d 89 129 ml st t Q := id rfl
theorem v_89_131 (xs : Option (List Int32)) (n : Nat) (b : Bool) (d : Nat) (ml : List Value) (t : T) (Q : Option Value → T → Prop) (st : List Value) : vc xs zH_89 (n + 1) b d 89 131 ml st t Q = vgi ml 9 (fun v => vc xs zH_89 n true d 89 133 ml (.int v :: st) t Q) := by
  rw [vc_q (o := (1, 0, 9, 1, [])) (by decide +kernel)]; rfl
theorem v_89_133 (xs : Option (List Int32)) (n : Nat) (b : Bool) (d : Nat) (ml : List Value) (t : T) (Q : Option Value → T → Prop) (u : Int32) (r : List Value) : vc xs zH_89 (n + 1) b d 89 133 ml (.int u :: r) t Q = (if u = 0 then vc xs zH_89 n true d 89 168 ml r t Q else vc xs zH_89 n true d 89 136 ml r t Q) := by
  rw [vc_q (o := (21, 0, 168, 0, [])) (by decide +kernel)]; rfl
theorem v_89_136 (xs : Option (List Int32)) (n : Nat) (b : Bool) (d : Nat) (ml : List Value) (t : T) (Q : Option Value → T → Prop) (st : List Value) : vc xs zH_89 (n + 1) b d 89 136 ml st t Q = vga ml 0 (fun v => vc xs zH_89 n true d 89 137 ml (.ref v :: st) t Q) := by
  rw [vc_q (o := (2, 0, 0, 0, [])) (by decide +kernel)]; rfl
theorem v_89_137 (xs : Option (List Int32)) (n : Nat) (b : Bool) (d : Nat) (ml : List Value) (t : T) (Q : Option Value → T → Prop) (st : List Value) : vc xs zH_89 (n + 1) b d 89 137 ml st t Q = vgi ml 1 (fun v => vc xs zH_89 n true d 89 138 ml (.int v :: st) t Q) := by
  rw [vc_q (o := (1, 0, 1, 0, [])) (by decide +kernel)]; rfl
theorem v_89_138 (xs : Option (List Int32)) (n : Nat) (b : Bool) (d : Nat) (ml : List Value) (t : T) (Q : Option Value → T → Prop) (st : List Value) : vc xs zH_89 (n + 1) b d 89 138 ml st t Q = vgi ml 5 (fun v => vc xs zH_89 n true d 89 140 ml (.int v :: st) t Q) := by
  rw [vc_q (o := (1, 0, 5, 1, [])) (by decide +kernel)]; rfl
theorem v_89_140 (xs : Option (List Int32)) (n : Nat) (b : Bool) (d : Nat) (ml : List Value) (t : T) (Q : Option Value → T → Prop) (st : List Value) : vc xs zH_89 (n + 1) b d 89 140 ml st t Q = vgi ml 7 (fun v => vc xs zH_89 n true d 89 142 ml (.int v :: st) t Q) := by
  rw [vc_q (o := (1, 0, 7, 1, [])) (by decide +kernel)]; rfl
theorem v_89_142 (xs : Option (List Int32)) (n : Nat) (b : Bool) (d : Nat) (ml : List Value) (t : T) (Q : Option Value → T → Prop) (st : List Value) : vc xs zH_89 (n + 1) b d 89 142 ml st t Q = vgi ml 8 (fun v => vc xs zH_89 n true d 89 144 ml (.int v :: st) t Q) := by
  rw [vc_q (o := (1, 0, 8, 1, [])) (by decide +kernel)]; rfl
theorem v_89_144 (xs : Option (List Int32)) (n : Nat) (b : Bool) (d : Nat) (ml : List Value) (t : T) (Q : Option Value → T → Prop) (st : List Value) : vc xs zH_89 (n + 1) b d 89 144 ml st t Q = (st.all zc1 = true ∧ vtk 3 st [] (fun as rest => rest.length ≤ 8 ∧ twc d 41 as t (fun r t' => vc xs zH_89 n true d 89 147 ml (r.toList ++ rest) t' Q))) := by
  rw [vc_q (o := (37, 0, 41, 3, [])) (by decide +kernel)]; rfl
theorem v_89_147 (xs : Option (List Int32)) (n : Nat) (b : Bool) (d : Nat) (ml : List Value) (t : T) (Q : Option Value → T → Prop) (st : List Value) : vc xs zH_89 (n + 1) b d 89 147 ml st t Q = vga ml 0 (fun v => vc xs zH_89 n true d 89 148 ml (.ref v :: st) t Q) := by
  rw [vc_q (o := (2, 0, 0, 0, [])) (by decide +kernel)]; rfl
theorem v_89_148 (xs : Option (List Int32)) (n : Nat) (b : Bool) (d : Nat) (ml : List Value) (t : T) (Q : Option Value → T → Prop) (st : List Value) : vc xs zH_89 (n + 1) b d 89 148 ml st t Q = vc xs zH_89 n true d 89 151 ml (.int 182 :: st) t Q := by
  rw [vc_q (o := (0, 182, 2, 0, [])) (by decide +kernel)]; rfl
theorem v_89_151 (xs : Option (List Int32)) (n : Nat) (b : Bool) (d : Nat) (ml : List Value) (t : T) (Q : Option Value → T → Prop) (st : List Value) : vc xs zH_89 (n + 1) b d 89 151 ml st t Q = vga ml 0 (fun v => vc xs zH_89 n true d 89 152 ml (.ref v :: st) t Q) := by
  rw [vc_q (o := (2, 0, 0, 0, [])) (by decide +kernel)]; rfl
theorem v_89_152 (xs : Option (List Int32)) (n : Nat) (b : Bool) (d : Nat) (ml : List Value) (t : T) (Q : Option Value → T → Prop) (u : Nat) (r : List Value) : vc xs zH_89 (n + 1) b d 89 152 ml (.ref u :: r) t Q = (vtag u = 12 ∧ vc xs zH_89 n true d 89 155 ml (.ref (tref t u 21) :: r) t Q) := by
  rw [vc_q (o := (25, 0, 12, 21, [])) (by decide +kernel)]; rfl
theorem v_89_155 (xs : Option (List Int32)) (n : Nat) (b : Bool) (d : Nat) (ml : List Value) (t : T) (Q : Option Value → T → Prop) (st : List Value) : vc xs zH_89 (n + 1) b d 89 155 ml st t Q = vgi ml 4 (fun v => vc xs zH_89 n true d 89 157 ml (.int v :: st) t Q) := by
  rw [vc_q (o := (1, 0, 4, 1, [])) (by decide +kernel)]; rfl
theorem v_89_157 (xs : Option (List Int32)) (n : Nat) (b : Bool) (d : Nat) (ml : List Value) (t : T) (Q : Option Value → T → Prop) (v : Int32) (u : Nat) (r : List Value) : vc xs zH_89 (n + 1) b d 89 157 ml (.int v :: .ref u :: r) t Q = (vtag u = 100 ∧ vinb v (vlen u) ∧ vc xs zH_89 n true d 89 158 ml (.int (t.1 u v.toNatClampNeg) :: r) t Q) := by
  rw [vc_q (o := (29, 0, 0, 0, [])) (by decide +kernel)]; rfl
theorem v_89_158 (xs : Option (List Int32)) (n : Nat) (b : Bool) (d : Nat) (ml : List Value) (t : T) (Q : Option Value → T → Prop) (st : List Value) : vc xs zH_89 (n + 1) b d 89 158 ml st t Q = vgi ml 7 (fun v => vc xs zH_89 n true d 89 160 ml (.int v :: st) t Q) := by
  rw [vc_q (o := (1, 0, 7, 1, [])) (by decide +kernel)]; rfl
theorem v_89_160 (xs : Option (List Int32)) (n : Nat) (b : Bool) (d : Nat) (ml : List Value) (t : T) (Q : Option Value → T → Prop) (st : List Value) : vc xs zH_89 (n + 1) b d 89 160 ml st t Q = vgi ml 8 (fun v => vc xs zH_89 n true d 89 162 ml (.int v :: st) t Q) := by
  rw [vc_q (o := (1, 0, 8, 1, [])) (by decide +kernel)]; rfl
theorem v_89_162 (xs : Option (List Int32)) (n : Nat) (b : Bool) (d : Nat) (ml : List Value) (t : T) (Q : Option Value → T → Prop) (st : List Value) : vc xs zH_89 (n + 1) b d 89 162 ml st t Q = (st.all zc1 = true ∧ vtk 5 st [] (fun as rest => rest.length ≤ 8 ∧ vrc as 12 (twc d 68 as t (fun r t' => vc xs zH_89 n true d 89 165 ml (r.toList ++ rest) t' Q)))) := by
  rw [vc_q (o := (36, 0, 68, 4, [(0, 12)])) (by decide +kernel)]; rfl
theorem v_89_165 (xs : Option (List Int32)) (n : Nat) (b : Bool) (d : Nat) (ml : List Value) (t : T) (Q : Option Value → T → Prop) (st : List Value) : vc xs zH_89 (n + 1) b d 89 165 ml st t Q = (st.all zc1 = true ∧ vtk 4 st [] (fun as rest => rest.length ≤ 8 ∧ vrc as 12 (twc d 39 as t (fun r t' => vc xs zH_89 n true d 89 168 ml (r.toList ++ rest) t' Q)))) := by
  rw [vc_q (o := (36, 0, 39, 3, [(0, 12)])) (by decide +kernel)]; rfl
theorem v_89_168 (xs : Option (List Int32)) (n : Nat) (b : Bool) (d : Nat) (ml : List Value) (t : T) (Q : Option Value → T → Prop) (st : List Value) : vc xs zH_89 (n + 1) b d 89 168 ml st t Q = vgi ml 6 (fun v => vset ml 6 (.int (v + 1)) (fun l => vc xs zH_89 n true d 89 171 l st t Q)) := by
  rw [vc_q (o := (5, 1, 6, 0, [])) (by decide +kernel)]; rfl
theorem v_89_171 (xs : Option (List Int32)) (n : Nat) (b : Bool) (d : Nat) (ml : List Value) (t : T) (Q : Option Value → T → Prop) (st : List Value) : vc xs zH_89 (n + 1) b d 89 171 ml st t Q = vc xs zH_89 n true d 89 46 ml st t Q := by
  rw [vc_q (o := (22, 0, 46, 0, [])) (by decide +kernel)]; rfl
theorem v_89_174 (xs : Option (List Int32)) (n : Nat) (b : Bool) (d : Nat) (ml : List Value) (t : T) (Q : Option Value → T → Prop) (st : List Value) : vc xs zH_89 (n + 1) b d 89 174 ml st t Q = vgi ml 4 (fun v => vset ml 4 (.int (v + 1)) (fun l => vc xs zH_89 n true d 89 177 l st t Q)) := by
  rw [vc_q (o := (5, 1, 4, 0, [])) (by decide +kernel)]; rfl
theorem v_89_177 (xs : Option (List Int32)) (n : Nat) (b : Bool) (d : Nat) (ml : List Value) (t : T) (Q : Option Value → T → Prop) (st : List Value) : vc xs zH_89 (n + 1) b d 89 177 ml st t Q = vc xs zH_89 n true d 89 19 ml st t Q := by
  rw [vc_q (o := (22, 0, 19, 0, [])) (by decide +kernel)]; rfl
theorem v_89_180 (xs : Option (List Int32)) (n : Nat) (b : Bool) (d : Nat) (ml : List Value) (t : T) (Q : Option Value → T → Prop)  : vc xs zH_89 (n + 1) b d 89 180 ml [] t Q = Q none t := by
  rw [vc_q (o := (43, 0, 0, 0, [])) (by decide +kernel)]; rfl
