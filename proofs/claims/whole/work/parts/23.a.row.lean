def zH_1 : List Nat := []
theorem v_1_0 (xs : Option (List Int32)) (n : Nat) (b : Bool) (d : Nat) (ml : List Value) (t : T) (Q : Option Value → T → Prop) (st : List Value) : vc xs zH_1 (n + 1) b d 1 0 ml st t Q = vgi ml 1 (fun v => vc xs zH_1 n true d 1 1 ml (.int v :: st) t Q) := by
  rw [vc_q (o := (1, 0, 1, 0, [])) (by decide +kernel)]; rfl
theorem v_1_1 (xs : Option (List Int32)) (n : Nat) (b : Bool) (d : Nat) (ml : List Value) (t : T) (Q : Option Value → T → Prop) (st : List Value) : vc xs zH_1 (n + 1) b d 1 1 ml st t Q = vc xs zH_1 n true d 1 2 ml (.int 4 :: st) t Q := by
  rw [vc_q (o := (0, 4, 0, 0, [])) (by decide +kernel)]; rfl
theorem v_1_2 (xs : Option (List Int32)) (n : Nat) (b : Bool) (d : Nat) (ml : List Value) (t : T) (Q : Option Value → T → Prop) (st : List Value) : vc xs zH_1 (n + 1) b d 1 2 ml st t Q = (st.all zc1 = true ∧ vtk 2 st [] (fun as rest => rest.length ≤ 8 ∧ twc d 22 as t (fun r t' => vc xs zH_1 n true d 1 5 ml (r.toList ++ rest) t' Q))) := by
  rw [vc_q (o := (37, 0, 22, 2, [])) (by decide +kernel)]; rfl
theorem v_1_5 (xs : Option (List Int32)) (n : Nat) (b : Bool) (d : Nat) (ml : List Value) (t : T) (Q : Option Value → T → Prop) (u : Int32) (r : List Value) : vc xs zH_1 (n + 1) b d 1 5 ml (.int u :: r) t Q = (if u = 0 then vc xs zH_1 n true d 1 17 ml r t Q else vc xs zH_1 n true d 1 8 ml r t Q) := by
  rw [vc_q (o := (21, 0, 17, 0, [])) (by decide +kernel)]; rfl
theorem v_1_8 (xs : Option (List Int32)) (n : Nat) (b : Bool) (d : Nat) (ml : List Value) (t : T) (Q : Option Value → T → Prop) (st : List Value) : vc xs zH_1 (n + 1) b d 1 8 ml st t Q = vgi ml 2 (fun v => vc xs zH_1 n true d 1 9 ml (.int v :: st) t Q) := by
  rw [vc_q (o := (1, 0, 2, 0, [])) (by decide +kernel)]; rfl
theorem v_1_9 (xs : Option (List Int32)) (n : Nat) (b : Bool) (d : Nat) (ml : List Value) (t : T) (Q : Option Value → T → Prop) (st : List Value) : vc xs zH_1 (n + 1) b d 1 9 ml st t Q = vc xs zH_1 n true d 1 11 ml (.int 7 :: st) t Q := by
  rw [vc_q (o := (0, 7, 1, 0, [])) (by decide +kernel)]; rfl
theorem v_1_11 (xs : Option (List Int32)) (n : Nat) (b : Bool) (d : Nat) (ml : List Value) (t : T) (Q : Option Value → T → Prop) (st : List Value) : vc xs zH_1 (n + 1) b d 1 11 ml st t Q = (st.all zc1 = true ∧ vtk 2 st [] (fun as rest => rest.length ≤ 8 ∧ twc d 22 as t (fun r t' => vc xs zH_1 n true d 1 14 ml (r.toList ++ rest) t' Q))) := by
  rw [vc_q (o := (37, 0, 22, 2, [])) (by decide +kernel)]; rfl
theorem v_1_14 (xs : Option (List Int32)) (n : Nat) (b : Bool) (d : Nat) (ml : List Value) (t : T) (Q : Option Value → T → Prop) (u : Int32) (r : List Value) : vc xs zH_1 (n + 1) b d 1 14 ml (.int u :: r) t Q = (if u = 0 then vc xs zH_1 n true d 1 17 ml r t Q else vc xs zH_1 n true d 1 19 ml r t Q) := by
  rw [vc_q (o := (21, 0, 19, 1, [])) (by decide +kernel)]; rfl
theorem v_1_17 (xs : Option (List Int32)) (n : Nat) (b : Bool) (d : Nat) (ml : List Value) (t : T) (Q : Option Value → T → Prop) (st : List Value) : vc xs zH_1 (n + 1) b d 1 17 ml st t Q = vc xs zH_1 n true d 1 18 ml (.int 0 :: st) t Q := by
  rw [vc_q (o := (0, 0, 0, 0, [])) (by decide +kernel)]; rfl
theorem v_1_18 (xs : Option (List Int32)) (n : Nat) (b : Bool) (d : Nat) (ml : List Value) (t : T) (Q : Option Value → T → Prop) (v : Int32) : vc xs zH_1 (n + 1) b d 1 18 ml [.int v] t Q = ((v = 0 ∨ v = 1) ∧ Q (some (.int v)) t) := by
  rw [vc_q (o := (41, 0, 0, 0, [])) (by decide +kernel)]; rfl
theorem v_1_19 (xs : Option (List Int32)) (n : Nat) (b : Bool) (d : Nat) (ml : List Value) (t : T) (Q : Option Value → T → Prop) (st : List Value) : vc xs zH_1 (n + 1) b d 1 19 ml st t Q = vga ml 0 (fun v => vc xs zH_1 n true d 1 20 ml (.ref v :: st) t Q) := by
  rw [vc_q (o := (2, 0, 0, 0, [])) (by decide +kernel)]; rfl
theorem v_1_20 (xs : Option (List Int32)) (n : Nat) (b : Bool) (d : Nat) (ml : List Value) (t : T) (Q : Option Value → T → Prop) (u : Nat) (r : List Value) : vc xs zH_1 (n + 1) b d 1 20 ml (.ref u :: r) t Q = (vtag u = 0 ∧ vc xs zH_1 n true d 1 23 ml (.ref (tref t u 0) :: r) t Q) := by
  rw [vc_q (o := (25, 0, 0, 0, [])) (by decide +kernel)]; rfl
theorem v_1_23 (xs : Option (List Int32)) (n : Nat) (b : Bool) (d : Nat) (ml : List Value) (t : T) (Q : Option Value → T → Prop) (st : List Value) : vc xs zH_1 (n + 1) b d 1 23 ml st t Q = vgi ml 1 (fun v => vc xs zH_1 n true d 1 24 ml (.int v :: st) t Q) := by
  rw [vc_q (o := (1, 0, 1, 0, [])) (by decide +kernel)]; rfl
theorem v_1_24 (xs : Option (List Int32)) (n : Nat) (b : Bool) (d : Nat) (ml : List Value) (t : T) (Q : Option Value → T → Prop) (v : Int32) (u : Nat) (r : List Value) : vc xs zH_1 (n + 1) b d 1 24 ml (.int v :: .ref u :: r) t Q = (103 ≤ vtag u ∧ vtag u < 108 ∧ vinb v (vlen u) ∧ vc xs zH_1 n true d 1 25 ml (.ref (tref t u v.toNatClampNeg) :: r) t Q) := by
  rw [vc_q (o := (31, 0, 0, 0, [])) (by decide +kernel)]; rfl
theorem v_1_25 (xs : Option (List Int32)) (n : Nat) (b : Bool) (d : Nat) (ml : List Value) (t : T) (Q : Option Value → T → Prop) (st : List Value) : vc xs zH_1 (n + 1) b d 1 25 ml st t Q = vgi ml 2 (fun v => vc xs zH_1 n true d 1 26 ml (.int v :: st) t Q) := by
  rw [vc_q (o := (1, 0, 2, 0, [])) (by decide +kernel)]; rfl
theorem v_1_26 (xs : Option (List Int32)) (n : Nat) (b : Bool) (d : Nat) (ml : List Value) (t : T) (Q : Option Value → T → Prop) (st : List Value) : vc xs zH_1 (n + 1) b d 1 26 ml st t Q = (st.all zc1 = true ∧ vtk 2 st [] (fun as rest => rest.length ≤ 8 ∧ vrc as 4 (twc d 167 as t (fun r t' => vc xs zH_1 n true d 1 29 ml (r.toList ++ rest) t' Q)))) := by
  rw [vc_q (o := (36, 0, 167, 1, [(0, 4)])) (by decide +kernel)]; rfl
theorem v_1_29 (xs : Option (List Int32)) (n : Nat) (b : Bool) (d : Nat) (ml : List Value) (t : T) (Q : Option Value → T → Prop) (st : List Value) : vc xs zH_1 (n + 1) b d 1 29 ml st t Q = vc xs zH_1 n true d 1 30 ml (.int 1 :: st) t Q := by
  rw [vc_q (o := (0, 1, 0, 0, [])) (by decide +kernel)]; rfl
theorem v_1_30 (xs : Option (List Int32)) (n : Nat) (b : Bool) (d : Nat) (ml : List Value) (t : T) (Q : Option Value → T → Prop) (v : Int32) : vc xs zH_1 (n + 1) b d 1 30 ml [.int v] t Q = ((v = 0 ∨ v = 1) ∧ Q (some (.int v)) t) := by
  rw [vc_q (o := (41, 0, 0, 0, [])) (by decide +kernel)]; rfl
def zH_2 : List Nat := []
theorem v_2_0 (xs : Option (List Int32)) (n : Nat) (b : Bool) (d : Nat) (ml : List Value) (t : T) (Q : Option Value → T → Prop) (st : List Value) : vc xs zH_2 (n + 1) b d 2 0 ml st t Q = vgi ml 1 (fun v => vc xs zH_2 n true d 2 1 ml (.int v :: st) t Q) := by
  rw [vc_q (o := (1, 0, 1, 0, [])) (by decide +kernel)]; rfl
theorem v_2_1 (xs : Option (List Int32)) (n : Nat) (b : Bool) (d : Nat) (ml : List Value) (t : T) (Q : Option Value → T → Prop) (st : List Value) : vc xs zH_2 (n + 1) b d 2 1 ml st t Q = vc xs zH_2 n true d 2 2 ml (.int 4 :: st) t Q := by
  rw [vc_q (o := (0, 4, 0, 0, [])) (by decide +kernel)]; rfl
theorem v_2_2 (xs : Option (List Int32)) (n : Nat) (b : Bool) (d : Nat) (ml : List Value) (t : T) (Q : Option Value → T → Prop) (st : List Value) : vc xs zH_2 (n + 1) b d 2 2 ml st t Q = (st.all zc1 = true ∧ vtk 2 st [] (fun as rest => rest.length ≤ 8 ∧ twc d 22 as t (fun r t' => vc xs zH_2 n true d 2 5 ml (r.toList ++ rest) t' Q))) := by
  rw [vc_q (o := (37, 0, 22, 2, [])) (by decide +kernel)]; rfl
theorem v_2_5 (xs : Option (List Int32)) (n : Nat) (b : Bool) (d : Nat) (ml : List Value) (t : T) (Q : Option Value → T → Prop) (u : Int32) (r : List Value) : vc xs zH_2 (n + 1) b d 2 5 ml (.int u :: r) t Q = (if u = 0 then vc xs zH_2 n true d 2 24 ml r t Q else vc xs zH_2 n true d 2 8 ml r t Q) := by
  rw [vc_q (o := (21, 0, 24, 0, [])) (by decide +kernel)]; rfl
theorem v_2_8 (xs : Option (List Int32)) (n : Nat) (b : Bool) (d : Nat) (ml : List Value) (t : T) (Q : Option Value → T → Prop) (st : List Value) : vc xs zH_2 (n + 1) b d 2 8 ml st t Q = vgi ml 2 (fun v => vc xs zH_2 n true d 2 9 ml (.int v :: st) t Q) := by
  rw [vc_q (o := (1, 0, 2, 0, [])) (by decide +kernel)]; rfl
theorem v_2_9 (xs : Option (List Int32)) (n : Nat) (b : Bool) (d : Nat) (ml : List Value) (t : T) (Q : Option Value → T → Prop) (st : List Value) : vc xs zH_2 (n + 1) b d 2 9 ml st t Q = vga ml 0 (fun v => vc xs zH_2 n true d 2 10 ml (.ref v :: st) t Q) := by
  rw [vc_q (o := (2, 0, 0, 0, [])) (by decide +kernel)]; rfl
theorem v_2_10 (xs : Option (List Int32)) (n : Nat) (b : Bool) (d : Nat) (ml : List Value) (t : T) (Q : Option Value → T → Prop) (u : Nat) (r : List Value) : vc xs zH_2 (n + 1) b d 2 10 ml (.ref u :: r) t Q = (vtag u = 0 ∧ vc xs zH_2 n true d 2 13 ml (.ref (tref t u 0) :: r) t Q) := by
  rw [vc_q (o := (25, 0, 0, 0, [])) (by decide +kernel)]; rfl
theorem v_2_13 (xs : Option (List Int32)) (n : Nat) (b : Bool) (d : Nat) (ml : List Value) (t : T) (Q : Option Value → T → Prop) (st : List Value) : vc xs zH_2 (n + 1) b d 2 13 ml st t Q = vgi ml 1 (fun v => vc xs zH_2 n true d 2 14 ml (.int v :: st) t Q) := by
  rw [vc_q (o := (1, 0, 1, 0, [])) (by decide +kernel)]; rfl
theorem v_2_14 (xs : Option (List Int32)) (n : Nat) (b : Bool) (d : Nat) (ml : List Value) (t : T) (Q : Option Value → T → Prop) (v : Int32) (u : Nat) (r : List Value) : vc xs zH_2 (n + 1) b d 2 14 ml (.int v :: .ref u :: r) t Q = (103 ≤ vtag u ∧ vtag u < 108 ∧ vinb v (vlen u) ∧ vc xs zH_2 n true d 2 15 ml (.ref (tref t u v.toNatClampNeg) :: r) t Q) := by
  rw [vc_q (o := (31, 0, 0, 0, [])) (by decide +kernel)]; rfl
theorem v_2_15 (xs : Option (List Int32)) (n : Nat) (b : Bool) (d : Nat) (ml : List Value) (t : T) (Q : Option Value → T → Prop) (u : Nat) (r : List Value) : vc xs zH_2 (n + 1) b d 2 15 ml (.ref u :: r) t Q = (vtag u = 4 ∧ vc xs zH_2 n true d 2 18 ml (.int (t.1 u 0) :: r) t Q) := by
  rw [vc_q (o := (24, 0, 4, 0, [])) (by decide +kernel)]; rfl
theorem v_2_18 (xs : Option (List Int32)) (n : Nat) (b : Bool) (d : Nat) (ml : List Value) (t : T) (Q : Option Value → T → Prop) (st : List Value) : vc xs zH_2 (n + 1) b d 2 18 ml st t Q = (st.all zc1 = true ∧ vtk 2 st [] (fun as rest => rest.length ≤ 8 ∧ twc d 22 as t (fun r t' => vc xs zH_2 n true d 2 21 ml (r.toList ++ rest) t' Q))) := by
  rw [vc_q (o := (37, 0, 22, 2, [])) (by decide +kernel)]; rfl
theorem v_2_21 (xs : Option (List Int32)) (n : Nat) (b : Bool) (d : Nat) (ml : List Value) (t : T) (Q : Option Value → T → Prop) (u : Int32) (r : List Value) : vc xs zH_2 (n + 1) b d 2 21 ml (.int u :: r) t Q = (if u = 0 then vc xs zH_2 n true d 2 24 ml r t Q else vc xs zH_2 n true d 2 26 ml r t Q) := by
  rw [vc_q (o := (21, 0, 26, 1, [])) (by decide +kernel)]; rfl
theorem v_2_24 (xs : Option (List Int32)) (n : Nat) (b : Bool) (d : Nat) (ml : List Value) (t : T) (Q : Option Value → T → Prop) (st : List Value) : vc xs zH_2 (n + 1) b d 2 24 ml st t Q = vc xs zH_2 n true d 2 25 ml (.int 0 :: st) t Q := by
  rw [vc_q (o := (0, 0, 0, 0, [])) (by decide +kernel)]; rfl
theorem v_2_25 (xs : Option (List Int32)) (n : Nat) (b : Bool) (d : Nat) (ml : List Value) (t : T) (Q : Option Value → T → Prop) (v : Int32) : vc xs zH_2 (n + 1) b d 2 25 ml [.int v] t Q = ((v = 0 ∨ v = 1) ∧ Q (some (.int v)) t) := by
  rw [vc_q (o := (41, 0, 0, 0, [])) (by decide +kernel)]; rfl
theorem v_2_26 (xs : Option (List Int32)) (n : Nat) (b : Bool) (d : Nat) (ml : List Value) (t : T) (Q : Option Value → T → Prop) (st : List Value) : vc xs zH_2 (n + 1) b d 2 26 ml st t Q = vga ml 0 (fun v => vc xs zH_2 n true d 2 27 ml (.ref v :: st) t Q) := by
  rw [vc_q (o := (2, 0, 0, 0, [])) (by decide +kernel)]; rfl
theorem v_2_27 (xs : Option (List Int32)) (n : Nat) (b : Bool) (d : Nat) (ml : List Value) (t : T) (Q : Option Value → T → Prop) (u : Nat) (r : List Value) : vc xs zH_2 (n + 1) b d 2 27 ml (.ref u :: r) t Q = (vtag u = 0 ∧ vc xs zH_2 n true d 2 30 ml (.ref (tref t u 0) :: r) t Q) := by
  rw [vc_q (o := (25, 0, 0, 0, [])) (by decide +kernel)]; rfl
theorem v_2_30 (xs : Option (List Int32)) (n : Nat) (b : Bool) (d : Nat) (ml : List Value) (t : T) (Q : Option Value → T → Prop) (st : List Value) : vc xs zH_2 (n + 1) b d 2 30 ml st t Q = vgi ml 1 (fun v => vc xs zH_2 n true d 2 31 ml (.int v :: st) t Q) := by
  rw [vc_q (o := (1, 0, 1, 0, [])) (by decide +kernel)]; rfl
theorem v_2_31 (xs : Option (List Int32)) (n : Nat) (b : Bool) (d : Nat) (ml : List Value) (t : T) (Q : Option Value → T → Prop) (v : Int32) (u : Nat) (r : List Value) : vc xs zH_2 (n + 1) b d 2 31 ml (.int v :: .ref u :: r) t Q = (103 ≤ vtag u ∧ vtag u < 108 ∧ vinb v (vlen u) ∧ vc xs zH_2 n true d 2 32 ml (.ref (tref t u v.toNatClampNeg) :: r) t Q) := by
  rw [vc_q (o := (31, 0, 0, 0, [])) (by decide +kernel)]; rfl
theorem v_2_32 (xs : Option (List Int32)) (n : Nat) (b : Bool) (d : Nat) (ml : List Value) (t : T) (Q : Option Value → T → Prop) (st : List Value) : vc xs zH_2 (n + 1) b d 2 32 ml st t Q = vgi ml 2 (fun v => vc xs zH_2 n true d 2 33 ml (.int v :: st) t Q) := by
  rw [vc_q (o := (1, 0, 2, 0, [])) (by decide +kernel)]; rfl
theorem v_2_33 (xs : Option (List Int32)) (n : Nat) (b : Bool) (d : Nat) (ml : List Value) (t : T) (Q : Option Value → T → Prop) (st : List Value) : vc xs zH_2 (n + 1) b d 2 33 ml st t Q = vgi ml 3 (fun v => vc xs zH_2 n true d 2 34 ml (.int v :: st) t Q) := by
  rw [vc_q (o := (1, 0, 3, 0, [])) (by decide +kernel)]; rfl
theorem v_2_34 (xs : Option (List Int32)) (n : Nat) (b : Bool) (d : Nat) (ml : List Value) (t : T) (Q : Option Value → T → Prop) (st : List Value) : vc xs zH_2 (n + 1) b d 2 34 ml st t Q = (st.all zc1 = true ∧ vtk 3 st [] (fun as rest => rest.length ≤ 8 ∧ vrc as 4 (twc d 166 as t (fun r t' => vc xs zH_2 n true d 2 37 ml (r.toList ++ rest) t' Q)))) := by
  rw [vc_q (o := (36, 0, 166, 2, [(0, 4)])) (by decide +kernel)]; rfl
theorem v_2_37 (xs : Option (List Int32)) (n : Nat) (b : Bool) (d : Nat) (ml : List Value) (t : T) (Q : Option Value → T → Prop) (st : List Value) : vc xs zH_2 (n + 1) b d 2 37 ml st t Q = vc xs zH_2 n true d 2 38 ml (.int 1 :: st) t Q := by
  rw [vc_q (o := (0, 1, 0, 0, [])) (by decide +kernel)]; rfl
theorem v_2_38 (xs : Option (List Int32)) (n : Nat) (b : Bool) (d : Nat) (ml : List Value) (t : T) (Q : Option Value → T → Prop) (v : Int32) : vc xs zH_2 (n + 1) b d 2 38 ml [.int v] t Q = ((v = 0 ∨ v = 1) ∧ Q (some (.int v)) t) := by
  rw [vc_q (o := (41, 0, 0, 0, [])) (by decide +kernel)]; rfl
def zH_3 : List Nat := []
theorem v_3_0 (xs : Option (List Int32)) (n : Nat) (b : Bool) (d : Nat) (ml : List Value) (t : T) (Q : Option Value → T → Prop) (st : List Value) : vc xs zH_3 (n + 1) b d 3 0 ml st t Q = vgi ml 2 (fun v => vc xs zH_3 n true d 3 1 ml (.int v :: st) t Q) := by
  rw [vc_q (o := (1, 0, 2, 0, [])) (by decide +kernel)]; rfl
theorem v_3_1 (xs : Option (List Int32)) (n : Nat) (b : Bool) (d : Nat) (ml : List Value) (t : T) (Q : Option Value → T → Prop) (st : List Value) : vc xs zH_3 (n + 1) b d 3 1 ml st t Q = vc xs zH_3 n true d 3 3 ml (.int 8 :: st) t Q := by
  rw [vc_q (o := (0, 8, 1, 0, [])) (by decide +kernel)]; rfl
theorem v_3_3 (xs : Option (List Int32)) (n : Nat) (b : Bool) (d : Nat) (ml : List Value) (t : T) (Q : Option Value → T → Prop) (st : List Value) : vc xs zH_3 (n + 1) b d 3 3 ml st t Q = (st.all zc1 = true ∧ vtk 2 st [] (fun as rest => rest.length ≤ 8 ∧ twc d 22 as t (fun r t' => vc xs zH_3 n true d 3 6 ml (r.toList ++ rest) t' Q))) := by
  rw [vc_q (o := (37, 0, 22, 2, [])) (by decide +kernel)]; rfl
theorem v_3_6 (xs : Option (List Int32)) (n : Nat) (b : Bool) (d : Nat) (ml : List Value) (t : T) (Q : Option Value → T → Prop) (u : Int32) (r : List Value) : vc xs zH_3 (n + 1) b d 3 6 ml (.int u :: r) t Q = (if u = 0 then vc xs zH_3 n true d 3 30 ml r t Q else vc xs zH_3 n true d 3 9 ml r t Q) := by
  rw [vc_q (o := (21, 0, 30, 0, [])) (by decide +kernel)]; rfl
theorem v_3_9 (xs : Option (List Int32)) (n : Nat) (b : Bool) (d : Nat) (ml : List Value) (t : T) (Q : Option Value → T → Prop) (st : List Value) : vc xs zH_3 (n + 1) b d 3 9 ml st t Q = vgi ml 5 (fun v => vc xs zH_3 n true d 3 11 ml (.int v :: st) t Q) := by
  rw [vc_q (o := (1, 0, 5, 1, [])) (by decide +kernel)]; rfl
theorem v_3_11 (xs : Option (List Int32)) (n : Nat) (b : Bool) (d : Nat) (ml : List Value) (t : T) (Q : Option Value → T → Prop) (st : List Value) : vc xs zH_3 (n + 1) b d 3 11 ml st t Q = vc xs zH_3 n true d 3 12 ml (.int 3 :: st) t Q := by
  rw [vc_q (o := (0, 3, 0, 0, [])) (by decide +kernel)]; rfl
theorem v_3_12 (xs : Option (List Int32)) (n : Nat) (b : Bool) (d : Nat) (ml : List Value) (t : T) (Q : Option Value → T → Prop) (st : List Value) : vc xs zH_3 (n + 1) b d 3 12 ml st t Q = (st.all zc1 = true ∧ vtk 2 st [] (fun as rest => rest.length ≤ 8 ∧ twc d 22 as t (fun r t' => vc xs zH_3 n true d 3 15 ml (r.toList ++ rest) t' Q))) := by
  rw [vc_q (o := (37, 0, 22, 2, [])) (by decide +kernel)]; rfl
theorem v_3_15 (xs : Option (List Int32)) (n : Nat) (b : Bool) (d : Nat) (ml : List Value) (t : T) (Q : Option Value → T → Prop) (u : Int32) (r : List Value) : vc xs zH_3 (n + 1) b d 3 15 ml (.int u :: r) t Q = (if u = 0 then vc xs zH_3 n true d 3 30 ml r t Q else vc xs zH_3 n true d 3 18 ml r t Q) := by
  rw [vc_q (o := (21, 0, 30, 0, [])) (by decide +kernel)]; rfl
theorem v_3_18 (xs : Option (List Int32)) (n : Nat) (b : Bool) (d : Nat) (ml : List Value) (t : T) (Q : Option Value → T → Prop) (st : List Value) : vc xs zH_3 (n + 1) b d 3 18 ml st t Q = vga ml 0 (fun v => vc xs zH_3 n true d 3 19 ml (.ref v :: st) t Q) := by
  rw [vc_q (o := (2, 0, 0, 0, [])) (by decide +kernel)]; rfl
theorem v_3_19 (xs : Option (List Int32)) (n : Nat) (b : Bool) (d : Nat) (ml : List Value) (t : T) (Q : Option Value → T → Prop) (st : List Value) : vc xs zH_3 (n + 1) b d 3 19 ml st t Q = vgi ml 1 (fun v => vc xs zH_3 n true d 3 20 ml (.int v :: st) t Q) := by
  rw [vc_q (o := (1, 0, 1, 0, [])) (by decide +kernel)]; rfl
theorem v_3_20 (xs : Option (List Int32)) (n : Nat) (b : Bool) (d : Nat) (ml : List Value) (t : T) (Q : Option Value → T → Prop) (st : List Value) : vc xs zH_3 (n + 1) b d 3 20 ml st t Q = vgi ml 2 (fun v => vc xs zH_3 n true d 3 21 ml (.int v :: st) t Q) := by
  rw [vc_q (o := (1, 0, 2, 0, [])) (by decide +kernel)]; rfl
theorem v_3_21 (xs : Option (List Int32)) (n : Nat) (b : Bool) (d : Nat) (ml : List Value) (t : T) (Q : Option Value → T → Prop) (st : List Value) : vc xs zH_3 (n + 1) b d 3 21 ml st t Q = vgi ml 3 (fun v => vc xs zH_3 n true d 3 22 ml (.int v :: st) t Q) := by
  rw [vc_q (o := (1, 0, 3, 0, [])) (by decide +kernel)]; rfl
theorem v_3_22 (xs : Option (List Int32)) (n : Nat) (b : Bool) (d : Nat) (ml : List Value) (t : T) (Q : Option Value → T → Prop) (st : List Value) : vc xs zH_3 (n + 1) b d 3 22 ml st t Q = vgi ml 4 (fun v => vc xs zH_3 n true d 3 24 ml (.int v :: st) t Q) := by
  rw [vc_q (o := (1, 0, 4, 1, [])) (by decide +kernel)]; rfl
theorem v_3_24 (xs : Option (List Int32)) (n : Nat) (b : Bool) (d : Nat) (ml : List Value) (t : T) (Q : Option Value → T → Prop) (st : List Value) : vc xs zH_3 (n + 1) b d 3 24 ml st t Q = (st.all zc1 = true ∧ vtk 5 st [] (fun as rest => rest.length ≤ 8 ∧ vrc as 0 (twc d 25 as t (fun r t' => vc xs zH_3 n true d 3 27 ml (r.toList ++ rest) t' Q)))) := by
  rw [vc_q (o := (36, 0, 25, 4, [(0, 0)])) (by decide +kernel)]; rfl
theorem v_3_27 (xs : Option (List Int32)) (n : Nat) (b : Bool) (d : Nat) (ml : List Value) (t : T) (Q : Option Value → T → Prop) (u : Int32) (r : List Value) : vc xs zH_3 (n + 1) b d 3 27 ml (.int u :: r) t Q = (if u = 0 then vc xs zH_3 n true d 3 30 ml r t Q else vc xs zH_3 n true d 3 32 ml r t Q) := by
  rw [vc_q (o := (21, 0, 32, 1, [])) (by decide +kernel)]; rfl
theorem v_3_30 (xs : Option (List Int32)) (n : Nat) (b : Bool) (d : Nat) (ml : List Value) (t : T) (Q : Option Value → T → Prop) (st : List Value) : vc xs zH_3 (n + 1) b d 3 30 ml st t Q = vc xs zH_3 n true d 3 31 ml (.int 0 :: st) t Q := by
  rw [vc_q (o := (0, 0, 0, 0, [])) (by decide +kernel)]; rfl
theorem v_3_31 (xs : Option (List Int32)) (n : Nat) (b : Bool) (d : Nat) (ml : List Value) (t : T) (Q : Option Value → T → Prop) (v : Int32) : vc xs zH_3 (n + 1) b d 3 31 ml [.int v] t Q = ((v = 0 ∨ v = 1) ∧ Q (some (.int v)) t) := by
  rw [vc_q (o := (41, 0, 0, 0, [])) (by decide +kernel)]; rfl
theorem v_3_32 (xs : Option (List Int32)) (n : Nat) (b : Bool) (d : Nat) (ml : List Value) (t : T) (Q : Option Value → T → Prop) (st : List Value) : vc xs zH_3 (n + 1) b d 3 32 ml st t Q = vga ml 0 (fun v => vc xs zH_3 n true d 3 33 ml (.ref v :: st) t Q) := by
  rw [vc_q (o := (2, 0, 0, 0, [])) (by decide +kernel)]; rfl
theorem v_3_33 (xs : Option (List Int32)) (n : Nat) (b : Bool) (d : Nat) (ml : List Value) (t : T) (Q : Option Value → T → Prop) (u : Nat) (r : List Value) : vc xs zH_3 (n + 1) b d 3 33 ml (.ref u :: r) t Q = (vtag u = 0 ∧ vc xs zH_3 n true d 3 36 ml (.ref (tref t u 0) :: r) t Q) := by
  rw [vc_q (o := (25, 0, 0, 0, [])) (by decide +kernel)]; rfl
theorem v_3_36 (xs : Option (List Int32)) (n : Nat) (b : Bool) (d : Nat) (ml : List Value) (t : T) (Q : Option Value → T → Prop) (st : List Value) : vc xs zH_3 (n + 1) b d 3 36 ml st t Q = vgi ml 1 (fun v => vc xs zH_3 n true d 3 37 ml (.int v :: st) t Q) := by
  rw [vc_q (o := (1, 0, 1, 0, [])) (by decide +kernel)]; rfl
theorem v_3_37 (xs : Option (List Int32)) (n : Nat) (b : Bool) (d : Nat) (ml : List Value) (t : T) (Q : Option Value → T → Prop) (v : Int32) (u : Nat) (r : List Value) : vc xs zH_3 (n + 1) b d 3 37 ml (.int v :: .ref u :: r) t Q = (103 ≤ vtag u ∧ vtag u < 108 ∧ vinb v (vlen u) ∧ vc xs zH_3 n true d 3 38 ml (.ref (tref t u v.toNatClampNeg) :: r) t Q) := by
  rw [vc_q (o := (31, 0, 0, 0, [])) (by decide +kernel)]; rfl
theorem v_3_38 (xs : Option (List Int32)) (n : Nat) (b : Bool) (d : Nat) (ml : List Value) (t : T) (Q : Option Value → T → Prop) (st : List Value) : vc xs zH_3 (n + 1) b d 3 38 ml st t Q = vgi ml 2 (fun v => vc xs zH_3 n true d 3 39 ml (.int v :: st) t Q) := by
  rw [vc_q (o := (1, 0, 2, 0, [])) (by decide +kernel)]; rfl
theorem v_3_39 (xs : Option (List Int32)) (n : Nat) (b : Bool) (d : Nat) (ml : List Value) (t : T) (Q : Option Value → T → Prop) (st : List Value) : vc xs zH_3 (n + 1) b d 3 39 ml st t Q = vgi ml 3 (fun v => vc xs zH_3 n true d 3 40 ml (.int v :: st) t Q) := by
  rw [vc_q (o := (1, 0, 3, 0, [])) (by decide +kernel)]; rfl
theorem v_3_40 (xs : Option (List Int32)) (n : Nat) (b : Bool) (d : Nat) (ml : List Value) (t : T) (Q : Option Value → T → Prop) (st : List Value) : vc xs zH_3 (n + 1) b d 3 40 ml st t Q = vgi ml 4 (fun v => vc xs zH_3 n true d 3 42 ml (.int v :: st) t Q) := by
  rw [vc_q (o := (1, 0, 4, 1, [])) (by decide +kernel)]; rfl
theorem v_3_42 (xs : Option (List Int32)) (n : Nat) (b : Bool) (d : Nat) (ml : List Value) (t : T) (Q : Option Value → T → Prop) (st : List Value) : vc xs zH_3 (n + 1) b d 3 42 ml st t Q = vgi ml 5 (fun v => vc xs zH_3 n true d 3 44 ml (.int v :: st) t Q) := by
  rw [vc_q (o := (1, 0, 5, 1, [])) (by decide +kernel)]; rfl
theorem v_3_44 (xs : Option (List Int32)) (n : Nat) (b : Bool) (d : Nat) (ml : List Value) (t : T) (Q : Option Value → T → Prop) (st : List Value) : vc xs zH_3 (n + 1) b d 3 44 ml st t Q = (st.all zc1 = true ∧ vtk 5 st [] (fun as rest => rest.length ≤ 8 ∧ vrc as 4 (twc d 163 as t (fun r t' => vc xs zH_3 n true d 3 47 ml (r.toList ++ rest) t' Q)))) := by
  rw [vc_q (o := (36, 0, 163, 4, [(0, 4)])) (by decide +kernel)]; rfl
theorem v_3_47 (xs : Option (List Int32)) (n : Nat) (b : Bool) (d : Nat) (ml : List Value) (t : T) (Q : Option Value → T → Prop) (st : List Value) : vc xs zH_3 (n + 1) b d 3 47 ml st t Q = vc xs zH_3 n true d 3 48 ml (.int 1 :: st) t Q := by
  rw [vc_q (o := (0, 1, 0, 0, [])) (by decide +kernel)]; rfl
theorem v_3_48 (xs : Option (List Int32)) (n : Nat) (b : Bool) (d : Nat) (ml : List Value) (t : T) (Q : Option Value → T → Prop) (v : Int32) : vc xs zH_3 (n + 1) b d 3 48 ml [.int v] t Q = ((v = 0 ∨ v = 1) ∧ Q (some (.int v)) t) := by
  rw [vc_q (o := (41, 0, 0, 0, [])) (by decide +kernel)]; rfl
def zH_4 : List Nat := []
theorem v_4_0 (xs : Option (List Int32)) (n : Nat) (b : Bool) (d : Nat) (ml : List Value) (t : T) (Q : Option Value → T → Prop) (st : List Value) : vc xs zH_4 (n + 1) b d 4 0 ml st t Q = vgi ml 2 (fun v => vc xs zH_4 n true d 4 1 ml (.int v :: st) t Q) := by
  rw [vc_q (o := (1, 0, 2, 0, [])) (by decide +kernel)]; rfl
theorem v_4_1 (xs : Option (List Int32)) (n : Nat) (b : Bool) (d : Nat) (ml : List Value) (t : T) (Q : Option Value → T → Prop) (st : List Value) : vc xs zH_4 (n + 1) b d 4 1 ml st t Q = vc xs zH_4 n true d 4 3 ml (.int 9 :: st) t Q := by
  rw [vc_q (o := (0, 9, 1, 0, [])) (by decide +kernel)]; rfl
theorem v_4_3 (xs : Option (List Int32)) (n : Nat) (b : Bool) (d : Nat) (ml : List Value) (t : T) (Q : Option Value → T → Prop) (st : List Value) : vc xs zH_4 (n + 1) b d 4 3 ml st t Q = (st.all zc1 = true ∧ vtk 2 st [] (fun as rest => rest.length ≤ 8 ∧ twc d 22 as t (fun r t' => vc xs zH_4 n true d 4 6 ml (r.toList ++ rest) t' Q))) := by
  rw [vc_q (o := (37, 0, 22, 2, [])) (by decide +kernel)]; rfl
theorem v_4_6 (xs : Option (List Int32)) (n : Nat) (b : Bool) (d : Nat) (ml : List Value) (t : T) (Q : Option Value → T → Prop) (u : Int32) (r : List Value) : vc xs zH_4 (n + 1) b d 4 6 ml (.int u :: r) t Q = (if u = 0 then vc xs zH_4 n true d 4 21 ml r t Q else vc xs zH_4 n true d 4 9 ml r t Q) := by
  rw [vc_q (o := (21, 0, 21, 0, [])) (by decide +kernel)]; rfl
theorem v_4_9 (xs : Option (List Int32)) (n : Nat) (b : Bool) (d : Nat) (ml : List Value) (t : T) (Q : Option Value → T → Prop) (st : List Value) : vc xs zH_4 (n + 1) b d 4 9 ml st t Q = vga ml 0 (fun v => vc xs zH_4 n true d 4 10 ml (.ref v :: st) t Q) := by
  rw [vc_q (o := (2, 0, 0, 0, [])) (by decide +kernel)]; rfl
theorem v_4_10 (xs : Option (List Int32)) (n : Nat) (b : Bool) (d : Nat) (ml : List Value) (t : T) (Q : Option Value → T → Prop) (st : List Value) : vc xs zH_4 (n + 1) b d 4 10 ml st t Q = vgi ml 1 (fun v => vc xs zH_4 n true d 4 11 ml (.int v :: st) t Q) := by
  rw [vc_q (o := (1, 0, 1, 0, [])) (by decide +kernel)]; rfl
theorem v_4_11 (xs : Option (List Int32)) (n : Nat) (b : Bool) (d : Nat) (ml : List Value) (t : T) (Q : Option Value → T → Prop) (st : List Value) : vc xs zH_4 (n + 1) b d 4 11 ml st t Q = vgi ml 2 (fun v => vc xs zH_4 n true d 4 12 ml (.int v :: st) t Q) := by
  rw [vc_q (o := (1, 0, 2, 0, [])) (by decide +kernel)]; rfl
theorem v_4_12 (xs : Option (List Int32)) (n : Nat) (b : Bool) (d : Nat) (ml : List Value) (t : T) (Q : Option Value → T → Prop) (st : List Value) : vc xs zH_4 (n + 1) b d 4 12 ml st t Q = vgi ml 3 (fun v => vc xs zH_4 n true d 4 13 ml (.int v :: st) t Q) := by
  rw [vc_q (o := (1, 0, 3, 0, [])) (by decide +kernel)]; rfl
theorem v_4_13 (xs : Option (List Int32)) (n : Nat) (b : Bool) (d : Nat) (ml : List Value) (t : T) (Q : Option Value → T → Prop) (st : List Value) : vc xs zH_4 (n + 1) b d 4 13 ml st t Q = vgi ml 4 (fun v => vc xs zH_4 n true d 4 15 ml (.int v :: st) t Q) := by
  rw [vc_q (o := (1, 0, 4, 1, [])) (by decide +kernel)]; rfl
theorem v_4_15 (xs : Option (List Int32)) (n : Nat) (b : Bool) (d : Nat) (ml : List Value) (t : T) (Q : Option Value → T → Prop) (st : List Value) : vc xs zH_4 (n + 1) b d 4 15 ml st t Q = (st.all zc1 = true ∧ vtk 5 st [] (fun as rest => rest.length ≤ 8 ∧ vrc as 0 (twc d 25 as t (fun r t' => vc xs zH_4 n true d 4 18 ml (r.toList ++ rest) t' Q)))) := by
  rw [vc_q (o := (36, 0, 25, 4, [(0, 0)])) (by decide +kernel)]; rfl
theorem v_4_18 (xs : Option (List Int32)) (n : Nat) (b : Bool) (d : Nat) (ml : List Value) (t : T) (Q : Option Value → T → Prop) (u : Int32) (r : List Value) : vc xs zH_4 (n + 1) b d 4 18 ml (.int u :: r) t Q = (if u = 0 then vc xs zH_4 n true d 4 21 ml r t Q else vc xs zH_4 n true d 4 23 ml r t Q) := by
  rw [vc_q (o := (21, 0, 23, 1, [])) (by decide +kernel)]; rfl
theorem v_4_21 (xs : Option (List Int32)) (n : Nat) (b : Bool) (d : Nat) (ml : List Value) (t : T) (Q : Option Value → T → Prop) (st : List Value) : vc xs zH_4 (n + 1) b d 4 21 ml st t Q = vc xs zH_4 n true d 4 22 ml (.int (-1) :: st) t Q := by
  rw [vc_q (o := (0, (-1), 0, 0, [])) (by decide +kernel)]; rfl
theorem v_4_22 (xs : Option (List Int32)) (n : Nat) (b : Bool) (d : Nat) (ml : List Value) (t : T) (Q : Option Value → T → Prop) (v : Int32) : vc xs zH_4 (n + 1) b d 4 22 ml [.int v] t Q = Q (some (.int v)) t := by
  rw [vc_q (o := (40, 0, 0, 0, [])) (by decide +kernel)]; rfl
theorem v_4_23 (xs : Option (List Int32)) (n : Nat) (b : Bool) (d : Nat) (ml : List Value) (t : T) (Q : Option Value → T → Prop) (st : List Value) : vc xs zH_4 (n + 1) b d 4 23 ml st t Q = vga ml 0 (fun v => vc xs zH_4 n true d 4 24 ml (.ref v :: st) t Q) := by
  rw [vc_q (o := (2, 0, 0, 0, [])) (by decide +kernel)]; rfl
theorem v_4_24 (xs : Option (List Int32)) (n : Nat) (b : Bool) (d : Nat) (ml : List Value) (t : T) (Q : Option Value → T → Prop) (u : Nat) (r : List Value) : vc xs zH_4 (n + 1) b d 4 24 ml (.ref u :: r) t Q = (vtag u = 0 ∧ vc xs zH_4 n true d 4 27 ml (.ref (tref t u 0) :: r) t Q) := by
  rw [vc_q (o := (25, 0, 0, 0, [])) (by decide +kernel)]; rfl
theorem v_4_27 (xs : Option (List Int32)) (n : Nat) (b : Bool) (d : Nat) (ml : List Value) (t : T) (Q : Option Value → T → Prop) (st : List Value) : vc xs zH_4 (n + 1) b d 4 27 ml st t Q = vgi ml 1 (fun v => vc xs zH_4 n true d 4 28 ml (.int v :: st) t Q) := by
  rw [vc_q (o := (1, 0, 1, 0, [])) (by decide +kernel)]; rfl
theorem v_4_28 (xs : Option (List Int32)) (n : Nat) (b : Bool) (d : Nat) (ml : List Value) (t : T) (Q : Option Value → T → Prop) (v : Int32) (u : Nat) (r : List Value) : vc xs zH_4 (n + 1) b d 4 28 ml (.int v :: .ref u :: r) t Q = (103 ≤ vtag u ∧ vtag u < 108 ∧ vinb v (vlen u) ∧ vc xs zH_4 n true d 4 29 ml (.ref (tref t u v.toNatClampNeg) :: r) t Q) := by
  rw [vc_q (o := (31, 0, 0, 0, [])) (by decide +kernel)]; rfl
theorem v_4_29 (xs : Option (List Int32)) (n : Nat) (b : Bool) (d : Nat) (ml : List Value) (t : T) (Q : Option Value → T → Prop) (st : List Value) : vc xs zH_4 (n + 1) b d 4 29 ml st t Q = vgi ml 2 (fun v => vc xs zH_4 n true d 4 30 ml (.int v :: st) t Q) := by
  rw [vc_q (o := (1, 0, 2, 0, [])) (by decide +kernel)]; rfl
theorem v_4_30 (xs : Option (List Int32)) (n : Nat) (b : Bool) (d : Nat) (ml : List Value) (t : T) (Q : Option Value → T → Prop) (st : List Value) : vc xs zH_4 (n + 1) b d 4 30 ml st t Q = vgi ml 3 (fun v => vc xs zH_4 n true d 4 31 ml (.int v :: st) t Q) := by
  rw [vc_q (o := (1, 0, 3, 0, [])) (by decide +kernel)]; rfl
theorem v_4_31 (xs : Option (List Int32)) (n : Nat) (b : Bool) (d : Nat) (ml : List Value) (t : T) (Q : Option Value → T → Prop) (st : List Value) : vc xs zH_4 (n + 1) b d 4 31 ml st t Q = vgi ml 4 (fun v => vc xs zH_4 n true d 4 33 ml (.int v :: st) t Q) := by
  rw [vc_q (o := (1, 0, 4, 1, [])) (by decide +kernel)]; rfl
theorem v_4_33 (xs : Option (List Int32)) (n : Nat) (b : Bool) (d : Nat) (ml : List Value) (t : T) (Q : Option Value → T → Prop) (st : List Value) : vc xs zH_4 (n + 1) b d 4 33 ml st t Q = (st.all zc1 = true ∧ vtk 4 st [] (fun as rest => rest.length ≤ 8 ∧ vrc as 4 (twc d 162 as t (fun r t' => vc xs zH_4 n true d 4 36 ml (r.toList ++ rest) t' Q)))) := by
  rw [vc_q (o := (36, 0, 162, 3, [(0, 4)])) (by decide +kernel)]; rfl
theorem v_4_36 (xs : Option (List Int32)) (n : Nat) (b : Bool) (d : Nat) (ml : List Value) (t : T) (Q : Option Value → T → Prop) (v : Int32) : vc xs zH_4 (n + 1) b d 4 36 ml [.int v] t Q = Q (some (.int v)) t := by
  rw [vc_q (o := (40, 0, 0, 0, [])) (by decide +kernel)]; rfl
def zH_5 : List Nat := []
theorem v_5_0 (xs : Option (List Int32)) (n : Nat) (b : Bool) (d : Nat) (ml : List Value) (t : T) (Q : Option Value → T → Prop) (st : List Value) : vc xs zH_5 (n + 1) b d 5 0 ml st t Q = vgi ml 1 (fun v => vc xs zH_5 n true d 5 1 ml (.int v :: st) t Q) := by
  rw [vc_q (o := (1, 0, 1, 0, [])) (by decide +kernel)]; rfl
theorem v_5_1 (xs : Option (List Int32)) (n : Nat) (b : Bool) (d : Nat) (ml : List Value) (t : T) (Q : Option Value → T → Prop) (st : List Value) : vc xs zH_5 (n + 1) b d 5 1 ml st t Q = vc xs zH_5 n true d 5 2 ml (.int 4 :: st) t Q := by
  rw [vc_q (o := (0, 4, 0, 0, [])) (by decide +kernel)]; rfl
theorem v_5_2 (xs : Option (List Int32)) (n : Nat) (b : Bool) (d : Nat) (ml : List Value) (t : T) (Q : Option Value → T → Prop) (st : List Value) : vc xs zH_5 (n + 1) b d 5 2 ml st t Q = (st.all zc1 = true ∧ vtk 2 st [] (fun as rest => rest.length ≤ 8 ∧ twc d 22 as t (fun r t' => vc xs zH_5 n true d 5 5 ml (r.toList ++ rest) t' Q))) := by
  rw [vc_q (o := (37, 0, 22, 2, [])) (by decide +kernel)]; rfl
theorem v_5_5 (xs : Option (List Int32)) (n : Nat) (b : Bool) (d : Nat) (ml : List Value) (t : T) (Q : Option Value → T → Prop) (u : Int32) (r : List Value) : vc xs zH_5 (n + 1) b d 5 5 ml (.int u :: r) t Q = (if u = 0 then vc xs zH_5 n true d 5 20 ml r t Q else vc xs zH_5 n true d 5 8 ml r t Q) := by
  rw [vc_q (o := (21, 0, 20, 0, [])) (by decide +kernel)]; rfl
theorem v_5_8 (xs : Option (List Int32)) (n : Nat) (b : Bool) (d : Nat) (ml : List Value) (t : T) (Q : Option Value → T → Prop) (st : List Value) : vc xs zH_5 (n + 1) b d 5 8 ml st t Q = vga ml 0 (fun v => vc xs zH_5 n true d 5 9 ml (.ref v :: st) t Q) := by
  rw [vc_q (o := (2, 0, 0, 0, [])) (by decide +kernel)]; rfl
theorem v_5_9 (xs : Option (List Int32)) (n : Nat) (b : Bool) (d : Nat) (ml : List Value) (t : T) (Q : Option Value → T → Prop) (u : Nat) (r : List Value) : vc xs zH_5 (n + 1) b d 5 9 ml (.ref u :: r) t Q = (vtag u = 0 ∧ vc xs zH_5 n true d 5 12 ml (.ref (tref t u 0) :: r) t Q) := by
  rw [vc_q (o := (25, 0, 0, 0, [])) (by decide +kernel)]; rfl
theorem v_5_12 (xs : Option (List Int32)) (n : Nat) (b : Bool) (d : Nat) (ml : List Value) (t : T) (Q : Option Value → T → Prop) (st : List Value) : vc xs zH_5 (n + 1) b d 5 12 ml st t Q = vgi ml 1 (fun v => vc xs zH_5 n true d 5 13 ml (.int v :: st) t Q) := by
  rw [vc_q (o := (1, 0, 1, 0, [])) (by decide +kernel)]; rfl
theorem v_5_13 (xs : Option (List Int32)) (n : Nat) (b : Bool) (d : Nat) (ml : List Value) (t : T) (Q : Option Value → T → Prop) (v : Int32) (u : Nat) (r : List Value) : vc xs zH_5 (n + 1) b d 5 13 ml (.int v :: .ref u :: r) t Q = (103 ≤ vtag u ∧ vtag u < 108 ∧ vinb v (vlen u) ∧ vc xs zH_5 n true d 5 14 ml (.ref (tref t u v.toNatClampNeg) :: r) t Q) := by
  rw [vc_q (o := (31, 0, 0, 0, [])) (by decide +kernel)]; rfl
theorem v_5_14 (xs : Option (List Int32)) (n : Nat) (b : Bool) (d : Nat) (ml : List Value) (t : T) (Q : Option Value → T → Prop) (u : Nat) (r : List Value) : vc xs zH_5 (n + 1) b d 5 14 ml (.ref u :: r) t Q = (vtag u = 4 ∧ vc xs zH_5 n true d 5 17 ml (.int (t.1 u 0) :: r) t Q) := by
  rw [vc_q (o := (24, 0, 4, 0, [])) (by decide +kernel)]; rfl
theorem v_5_17 (xs : Option (List Int32)) (n : Nat) (b : Bool) (d : Nat) (ml : List Value) (t : T) (Q : Option Value → T → Prop) (st : List Value) : vc xs zH_5 (n + 1) b d 5 17 ml st t Q = vc xs zH_5 n true d 5 21 ml st t Q := by
  rw [vc_q (o := (22, 0, 21, 0, [])) (by decide +kernel)]; rfl
theorem v_5_20 (xs : Option (List Int32)) (n : Nat) (b : Bool) (d : Nat) (ml : List Value) (t : T) (Q : Option Value → T → Prop) (st : List Value) : vc xs zH_5 (n + 1) b d 5 20 ml st t Q = vc xs zH_5 n true d 5 21 ml (.int (-1) :: st) t Q := by
  rw [vc_q (o := (0, (-1), 0, 0, [])) (by decide +kernel)]; rfl
theorem v_5_21 (xs : Option (List Int32)) (n : Nat) (b : Bool) (d : Nat) (ml : List Value) (t : T) (Q : Option Value → T → Prop) (v : Int32) : vc xs zH_5 (n + 1) b d 5 21 ml [.int v] t Q = Q (some (.int v)) t := by
  rw [vc_q (o := (40, 0, 0, 0, [])) (by decide +kernel)]; rfl
def zH_6 : List Nat := []
theorem v_6_0 (xs : Option (List Int32)) (n : Nat) (b : Bool) (d : Nat) (ml : List Value) (t : T) (Q : Option Value → T → Prop) (st : List Value) : vc xs zH_6 (n + 1) b d 6 0 ml st t Q = vga ml 0 (fun v => vc xs zH_6 n true d 6 1 ml (.ref v :: st) t Q) := by
  rw [vc_q (o := (2, 0, 0, 0, [])) (by decide +kernel)]; rfl
theorem v_6_1 (xs : Option (List Int32)) (n : Nat) (b : Bool) (d : Nat) (ml : List Value) (t : T) (Q : Option Value → T → Prop) (u : Nat) (r : List Value) : vc xs zH_6 (n + 1) b d 6 1 ml (.ref u :: r) t Q = (vtag u = 0 ∧ vc xs zH_6 n true d 6 4 ml (.ref (tref t u 1) :: r) t Q) := by
  rw [vc_q (o := (25, 0, 0, 1, [])) (by decide +kernel)]; rfl
theorem v_6_4 (xs : Option (List Int32)) (n : Nat) (b : Bool) (d : Nat) (ml : List Value) (t : T) (Q : Option Value → T → Prop) (st : List Value) : vc xs zH_6 (n + 1) b d 6 4 ml st t Q = vgi ml 1 (fun v => vc xs zH_6 n true d 6 5 ml (.int v :: st) t Q) := by
  rw [vc_q (o := (1, 0, 1, 0, [])) (by decide +kernel)]; rfl
theorem v_6_5 (xs : Option (List Int32)) (n : Nat) (b : Bool) (d : Nat) (ml : List Value) (t : T) (Q : Option Value → T → Prop) (st : List Value) : vc xs zH_6 (n + 1) b d 6 5 ml st t Q = vgi ml 2 (fun v => vc xs zH_6 n true d 6 6 ml (.int v :: st) t Q) := by
  rw [vc_q (o := (1, 0, 2, 0, [])) (by decide +kernel)]; rfl
theorem v_6_6 (xs : Option (List Int32)) (n : Nat) (b : Bool) (d : Nat) (ml : List Value) (t : T) (Q : Option Value → T → Prop) (st : List Value) : vc xs zH_6 (n + 1) b d 6 6 ml st t Q = vgi ml 3 (fun v => vc xs zH_6 n true d 6 7 ml (.int v :: st) t Q) := by
  rw [vc_q (o := (1, 0, 3, 0, [])) (by decide +kernel)]; rfl
theorem v_6_7 (xs : Option (List Int32)) (n : Nat) (b : Bool) (d : Nat) (ml : List Value) (t : T) (Q : Option Value → T → Prop) (st : List Value) : vc xs zH_6 (n + 1) b d 6 7 ml st t Q = vgi ml 4 (fun v => vc xs zH_6 n true d 6 9 ml (.int v :: st) t Q) := by
  rw [vc_q (o := (1, 0, 4, 1, [])) (by decide +kernel)]; rfl
theorem v_6_9 (xs : Option (List Int32)) (n : Nat) (b : Bool) (d : Nat) (ml : List Value) (t : T) (Q : Option Value → T → Prop) (st : List Value) : vc xs zH_6 (n + 1) b d 6 9 ml st t Q = vgi ml 5 (fun v => vc xs zH_6 n true d 6 11 ml (.int v :: st) t Q) := by
  rw [vc_q (o := (1, 0, 5, 1, [])) (by decide +kernel)]; rfl
theorem v_6_11 (xs : Option (List Int32)) (n : Nat) (b : Bool) (d : Nat) (ml : List Value) (t : T) (Q : Option Value → T → Prop) (st : List Value) : vc xs zH_6 (n + 1) b d 6 11 ml st t Q = (st.all zc1 = true ∧ vtk 6 st [] (fun as rest => rest.length ≤ 8 ∧ vrc as 1 (twc d 135 as t (fun r t' => vc xs zH_6 n true d 6 14 ml (r.toList ++ rest) t' Q)))) := by
  rw [vc_q (o := (36, 0, 135, 5, [(0, 1)])) (by decide +kernel)]; rfl
theorem v_6_14 (xs : Option (List Int32)) (n : Nat) (b : Bool) (d : Nat) (ml : List Value) (t : T) (Q : Option Value → T → Prop) (u : Int32) (r : List Value) : vc xs zH_6 (n + 1) b d 6 14 ml (.int u :: r) t Q = (if u = 0 then vc xs zH_6 n true d 6 17 ml r t Q else vc xs zH_6 n true d 6 19 ml r t Q) := by
  rw [vc_q (o := (21, 0, 19, 1, [])) (by decide +kernel)]; rfl
theorem v_6_17 (xs : Option (List Int32)) (n : Nat) (b : Bool) (d : Nat) (ml : List Value) (t : T) (Q : Option Value → T → Prop) (st : List Value) : vc xs zH_6 (n + 1) b d 6 17 ml st t Q = vc xs zH_6 n true d 6 18 ml (.int (-1) :: st) t Q := by
  rw [vc_q (o := (0, (-1), 0, 0, [])) (by decide +kernel)]; rfl
theorem v_6_18 (xs : Option (List Int32)) (n : Nat) (b : Bool) (d : Nat) (ml : List Value) (t : T) (Q : Option Value → T → Prop) (v : Int32) : vc xs zH_6 (n + 1) b d 6 18 ml [.int v] t Q = Q (some (.int v)) t := by
  rw [vc_q (o := (40, 0, 0, 0, [])) (by decide +kernel)]; rfl
theorem v_6_19 (xs : Option (List Int32)) (n : Nat) (b : Bool) (d : Nat) (ml : List Value) (t : T) (Q : Option Value → T → Prop) (st : List Value) : vc xs zH_6 (n + 1) b d 6 19 ml st t Q = vga ml 0 (fun v => vc xs zH_6 n true d 6 20 ml (.ref v :: st) t Q) := by
  rw [vc_q (o := (2, 0, 0, 0, [])) (by decide +kernel)]; rfl
theorem v_6_20 (xs : Option (List Int32)) (n : Nat) (b : Bool) (d : Nat) (ml : List Value) (t : T) (Q : Option Value → T → Prop) (u : Nat) (r : List Value) : vc xs zH_6 (n + 1) b d 6 20 ml (.ref u :: r) t Q = (vtag u = 0 ∧ vc xs zH_6 n true d 6 23 ml (.ref (tref t u 1) :: r) t Q) := by
  rw [vc_q (o := (25, 0, 0, 1, [])) (by decide +kernel)]; rfl
theorem v_6_23 (xs : Option (List Int32)) (n : Nat) (b : Bool) (d : Nat) (ml : List Value) (t : T) (Q : Option Value → T → Prop) (u : Nat) (r : List Value) : vc xs zH_6 (n + 1) b d 6 23 ml (.ref u :: r) t Q = (vtag u = 1 ∧ vc xs zH_6 n true d 6 26 ml (.int (t.1 u 1) :: r) t Q) := by
  rw [vc_q (o := (24, 0, 1, 1, [])) (by decide +kernel)]; rfl
theorem v_6_26 (xs : Option (List Int32)) (n : Nat) (b : Bool) (d : Nat) (ml : List Value) (t : T) (Q : Option Value → T → Prop) (st : List Value) : vc xs zH_6 (n + 1) b d 6 26 ml st t Q = vc xs zH_6 n true d 6 28 ml (.int 40 :: st) t Q := by
  rw [vc_q (o := (0, 40, 1, 0, [])) (by decide +kernel)]; rfl
theorem v_6_28 (xs : Option (List Int32)) (n : Nat) (b : Bool) (d : Nat) (ml : List Value) (t : T) (Q : Option Value → T → Prop) (u v : Int32) (r : List Value) : vc xs zH_6 (n + 1) b d 6 28 ml (.int v :: .int u :: r) t Q = (if u = v then vc xs zH_6 n true d 6 31 ml r t Q else vc xs zH_6 n true d 6 34 ml r t Q) := by
  rw [vc_q (o := (20, 0, 34, 1, [])) (by decide +kernel)]; rfl
theorem v_6_31 (xs : Option (List Int32)) (n : Nat) (b : Bool) (d : Nat) (ml : List Value) (t : T) (Q : Option Value → T → Prop) (st : List Value) : vc xs zH_6 (n + 1) b d 6 31 ml st t Q = vc xs zH_6 n true d 6 33 ml (.int (-2) :: st) t Q := by
  rw [vc_q (o := (0, (-2), 1, 0, [])) (by decide +kernel)]; rfl
theorem v_6_33 (xs : Option (List Int32)) (n : Nat) (b : Bool) (d : Nat) (ml : List Value) (t : T) (Q : Option Value → T → Prop) (v : Int32) : vc xs zH_6 (n + 1) b d 6 33 ml [.int v] t Q = Q (some (.int v)) t := by
  rw [vc_q (o := (40, 0, 0, 0, [])) (by decide +kernel)]; rfl
theorem v_6_34 (xs : Option (List Int32)) (n : Nat) (b : Bool) (d : Nat) (ml : List Value) (t : T) (Q : Option Value → T → Prop) (st : List Value) : vc xs zH_6 (n + 1) b d 6 34 ml st t Q = vga ml 0 (fun v => vc xs zH_6 n true d 6 35 ml (.ref v :: st) t Q) := by
  rw [vc_q (o := (2, 0, 0, 0, [])) (by decide +kernel)]; rfl
theorem v_6_35 (xs : Option (List Int32)) (n : Nat) (b : Bool) (d : Nat) (ml : List Value) (t : T) (Q : Option Value → T → Prop) (u : Nat) (r : List Value) : vc xs zH_6 (n + 1) b d 6 35 ml (.ref u :: r) t Q = (vtag u = 0 ∧ vc xs zH_6 n true d 6 38 ml (.ref (tref t u 1) :: r) t Q) := by
  rw [vc_q (o := (25, 0, 0, 1, [])) (by decide +kernel)]; rfl
theorem v_6_38 (xs : Option (List Int32)) (n : Nat) (b : Bool) (d : Nat) (ml : List Value) (t : T) (Q : Option Value → T → Prop) (st : List Value) : vc xs zH_6 (n + 1) b d 6 38 ml st t Q = vgi ml 1 (fun v => vc xs zH_6 n true d 6 39 ml (.int v :: st) t Q) := by
  rw [vc_q (o := (1, 0, 1, 0, [])) (by decide +kernel)]; rfl
theorem v_6_39 (xs : Option (List Int32)) (n : Nat) (b : Bool) (d : Nat) (ml : List Value) (t : T) (Q : Option Value → T → Prop) (st : List Value) : vc xs zH_6 (n + 1) b d 6 39 ml st t Q = vgi ml 2 (fun v => vc xs zH_6 n true d 6 40 ml (.int v :: st) t Q) := by
  rw [vc_q (o := (1, 0, 2, 0, [])) (by decide +kernel)]; rfl
theorem v_6_40 (xs : Option (List Int32)) (n : Nat) (b : Bool) (d : Nat) (ml : List Value) (t : T) (Q : Option Value → T → Prop) (st : List Value) : vc xs zH_6 (n + 1) b d 6 40 ml st t Q = vgi ml 3 (fun v => vc xs zH_6 n true d 6 41 ml (.int v :: st) t Q) := by
  rw [vc_q (o := (1, 0, 3, 0, [])) (by decide +kernel)]; rfl
theorem v_6_41 (xs : Option (List Int32)) (n : Nat) (b : Bool) (d : Nat) (ml : List Value) (t : T) (Q : Option Value → T → Prop) (st : List Value) : vc xs zH_6 (n + 1) b d 6 41 ml st t Q = vgi ml 4 (fun v => vc xs zH_6 n true d 6 43 ml (.int v :: st) t Q) := by
  rw [vc_q (o := (1, 0, 4, 1, [])) (by decide +kernel)]; rfl
theorem v_6_43 (xs : Option (List Int32)) (n : Nat) (b : Bool) (d : Nat) (ml : List Value) (t : T) (Q : Option Value → T → Prop) (st : List Value) : vc xs zH_6 (n + 1) b d 6 43 ml st t Q = vgi ml 5 (fun v => vc xs zH_6 n true d 6 45 ml (.int v :: st) t Q) := by
  rw [vc_q (o := (1, 0, 5, 1, [])) (by decide +kernel)]; rfl
theorem v_6_45 (xs : Option (List Int32)) (n : Nat) (b : Bool) (d : Nat) (ml : List Value) (t : T) (Q : Option Value → T → Prop) (st : List Value) : vc xs zH_6 (n + 1) b d 6 45 ml st t Q = (st.all zc1 = true ∧ vtk 6 st [] (fun as rest => rest.length ≤ 8 ∧ vrc as 1 (twc d 137 as t (fun r t' => vc xs zH_6 n true d 6 48 ml (r.toList ++ rest) t' Q)))) := by
  rw [vc_q (o := (36, 0, 137, 5, [(0, 1)])) (by decide +kernel)]; rfl
theorem v_6_48 (xs : Option (List Int32)) (n : Nat) (b : Bool) (d : Nat) (ml : List Value) (t : T) (Q : Option Value → T → Prop) (v : Int32) : vc xs zH_6 (n + 1) b d 6 48 ml [.int v] t Q = Q (some (.int v)) t := by
  rw [vc_q (o := (40, 0, 0, 0, [])) (by decide +kernel)]; rfl
def zH_7 : List Nat := []
theorem v_7_0 (xs : Option (List Int32)) (n : Nat) (b : Bool) (d : Nat) (ml : List Value) (t : T) (Q : Option Value → T → Prop) (st : List Value) : vc xs zH_7 (n + 1) b d 7 0 ml st t Q = vgi ml 1 (fun v => vc xs zH_7 n true d 7 1 ml (.int v :: st) t Q) := by
  rw [vc_q (o := (1, 0, 1, 0, [])) (by decide +kernel)]; rfl
theorem v_7_1 (xs : Option (List Int32)) (n : Nat) (b : Bool) (d : Nat) (ml : List Value) (t : T) (Q : Option Value → T → Prop) (st : List Value) : vc xs zH_7 (n + 1) b d 7 1 ml st t Q = vga ml 0 (fun v => vc xs zH_7 n true d 7 2 ml (.ref v :: st) t Q) := by
  rw [vc_q (o := (2, 0, 0, 0, [])) (by decide +kernel)]; rfl
theorem v_7_2 (xs : Option (List Int32)) (n : Nat) (b : Bool) (d : Nat) (ml : List Value) (t : T) (Q : Option Value → T → Prop) (u : Nat) (r : List Value) : vc xs zH_7 (n + 1) b d 7 2 ml (.ref u :: r) t Q = (vtag u = 0 ∧ vc xs zH_7 n true d 7 5 ml (.ref (tref t u 1) :: r) t Q) := by
  rw [vc_q (o := (25, 0, 0, 1, [])) (by decide +kernel)]; rfl
theorem v_7_5 (xs : Option (List Int32)) (n : Nat) (b : Bool) (d : Nat) (ml : List Value) (t : T) (Q : Option Value → T → Prop) (u : Nat) (r : List Value) : vc xs zH_7 (n + 1) b d 7 5 ml (.ref u :: r) t Q = (vtag u = 1 ∧ vc xs zH_7 n true d 7 8 ml (.int (t.1 u 1) :: r) t Q) := by
  rw [vc_q (o := (24, 0, 1, 1, [])) (by decide +kernel)]; rfl
theorem v_7_8 (xs : Option (List Int32)) (n : Nat) (b : Bool) (d : Nat) (ml : List Value) (t : T) (Q : Option Value → T → Prop) (st : List Value) : vc xs zH_7 (n + 1) b d 7 8 ml st t Q = (st.all zc1 = true ∧ vtk 2 st [] (fun as rest => rest.length ≤ 8 ∧ twc d 22 as t (fun r t' => vc xs zH_7 n true d 7 11 ml (r.toList ++ rest) t' Q))) := by
  rw [vc_q (o := (37, 0, 22, 2, [])) (by decide +kernel)]; rfl
theorem v_7_11 (xs : Option (List Int32)) (n : Nat) (b : Bool) (d : Nat) (ml : List Value) (t : T) (Q : Option Value → T → Prop) (u : Int32) (r : List Value) : vc xs zH_7 (n + 1) b d 7 11 ml (.int u :: r) t Q = (if u = 0 then vc xs zH_7 n true d 7 29 ml r t Q else vc xs zH_7 n true d 7 14 ml r t Q) := by
  rw [vc_q (o := (21, 0, 29, 0, [])) (by decide +kernel)]; rfl
theorem v_7_14 (xs : Option (List Int32)) (n : Nat) (b : Bool) (d : Nat) (ml : List Value) (t : T) (Q : Option Value → T → Prop) (st : List Value) : vc xs zH_7 (n + 1) b d 7 14 ml st t Q = vga ml 0 (fun v => vc xs zH_7 n true d 7 15 ml (.ref v :: st) t Q) := by
  rw [vc_q (o := (2, 0, 0, 0, [])) (by decide +kernel)]; rfl
theorem v_7_15 (xs : Option (List Int32)) (n : Nat) (b : Bool) (d : Nat) (ml : List Value) (t : T) (Q : Option Value → T → Prop) (u : Nat) (r : List Value) : vc xs zH_7 (n + 1) b d 7 15 ml (.ref u :: r) t Q = (vtag u = 0 ∧ vc xs zH_7 n true d 7 18 ml (.ref (tref t u 1) :: r) t Q) := by
  rw [vc_q (o := (25, 0, 0, 1, [])) (by decide +kernel)]; rfl
theorem v_7_18 (xs : Option (List Int32)) (n : Nat) (b : Bool) (d : Nat) (ml : List Value) (t : T) (Q : Option Value → T → Prop) (u : Nat) (r : List Value) : vc xs zH_7 (n + 1) b d 7 18 ml (.ref u :: r) t Q = (vtag u = 1 ∧ vc xs zH_7 n true d 7 21 ml (.ref (tref t u 0) :: r) t Q) := by
  rw [vc_q (o := (25, 0, 1, 0, [])) (by decide +kernel)]; rfl
theorem v_7_21 (xs : Option (List Int32)) (n : Nat) (b : Bool) (d : Nat) (ml : List Value) (t : T) (Q : Option Value → T → Prop) (st : List Value) : vc xs zH_7 (n + 1) b d 7 21 ml st t Q = vgi ml 1 (fun v => vc xs zH_7 n true d 7 22 ml (.int v :: st) t Q) := by
  rw [vc_q (o := (1, 0, 1, 0, [])) (by decide +kernel)]; rfl
theorem v_7_22 (xs : Option (List Int32)) (n : Nat) (b : Bool) (d : Nat) (ml : List Value) (t : T) (Q : Option Value → T → Prop) (v : Int32) (u : Nat) (r : List Value) : vc xs zH_7 (n + 1) b d 7 22 ml (.int v :: .ref u :: r) t Q = (103 ≤ vtag u ∧ vtag u < 108 ∧ vinb v (vlen u) ∧ vc xs zH_7 n true d 7 23 ml (.ref (tref t u v.toNatClampNeg) :: r) t Q) := by
  rw [vc_q (o := (31, 0, 0, 0, [])) (by decide +kernel)]; rfl
theorem v_7_23 (xs : Option (List Int32)) (n : Nat) (b : Bool) (d : Nat) (ml : List Value) (t : T) (Q : Option Value → T → Prop) (u : Nat) (r : List Value) : vc xs zH_7 (n + 1) b d 7 23 ml (.ref u :: r) t Q = (vtag u = 2 ∧ vc xs zH_7 n true d 7 26 ml (.int (t.1 u 6) :: r) t Q) := by
  rw [vc_q (o := (24, 0, 2, 6, [])) (by decide +kernel)]; rfl
theorem v_7_26 (xs : Option (List Int32)) (n : Nat) (b : Bool) (d : Nat) (ml : List Value) (t : T) (Q : Option Value → T → Prop) (st : List Value) : vc xs zH_7 (n + 1) b d 7 26 ml st t Q = vc xs zH_7 n true d 7 30 ml st t Q := by
  rw [vc_q (o := (22, 0, 30, 0, [])) (by decide +kernel)]; rfl
theorem v_7_29 (xs : Option (List Int32)) (n : Nat) (b : Bool) (d : Nat) (ml : List Value) (t : T) (Q : Option Value → T → Prop) (st : List Value) : vc xs zH_7 (n + 1) b d 7 29 ml st t Q = vc xs zH_7 n true d 7 30 ml (.int (-1) :: st) t Q := by
  rw [vc_q (o := (0, (-1), 0, 0, [])) (by decide +kernel)]; rfl
theorem v_7_30 (xs : Option (List Int32)) (n : Nat) (b : Bool) (d : Nat) (ml : List Value) (t : T) (Q : Option Value → T → Prop) (v : Int32) : vc xs zH_7 (n + 1) b d 7 30 ml [.int v] t Q = Q (some (.int v)) t := by
  rw [vc_q (o := (40, 0, 0, 0, [])) (by decide +kernel)]; rfl
def zH_8 : List Nat := []
theorem v_8_0 (xs : Option (List Int32)) (n : Nat) (b : Bool) (d : Nat) (ml : List Value) (t : T) (Q : Option Value → T → Prop) (st : List Value) : vc xs zH_8 (n + 1) b d 8 0 ml st t Q = vgi ml 1 (fun v => vc xs zH_8 n true d 8 1 ml (.int v :: st) t Q) := by
  rw [vc_q (o := (1, 0, 1, 0, [])) (by decide +kernel)]; rfl
theorem v_8_1 (xs : Option (List Int32)) (n : Nat) (b : Bool) (d : Nat) (ml : List Value) (t : T) (Q : Option Value → T → Prop) (st : List Value) : vc xs zH_8 (n + 1) b d 8 1 ml st t Q = vc xs zH_8 n true d 8 2 ml (.int 4 :: st) t Q := by
  rw [vc_q (o := (0, 4, 0, 0, [])) (by decide +kernel)]; rfl
theorem v_8_2 (xs : Option (List Int32)) (n : Nat) (b : Bool) (d : Nat) (ml : List Value) (t : T) (Q : Option Value → T → Prop) (st : List Value) : vc xs zH_8 (n + 1) b d 8 2 ml st t Q = (st.all zc1 = true ∧ vtk 2 st [] (fun as rest => rest.length ≤ 8 ∧ twc d 22 as t (fun r t' => vc xs zH_8 n true d 8 5 ml (r.toList ++ rest) t' Q))) := by
  rw [vc_q (o := (37, 0, 22, 2, [])) (by decide +kernel)]; rfl
theorem v_8_5 (xs : Option (List Int32)) (n : Nat) (b : Bool) (d : Nat) (ml : List Value) (t : T) (Q : Option Value → T → Prop) (u : Int32) (r : List Value) : vc xs zH_8 (n + 1) b d 8 5 ml (.int u :: r) t Q = (if u = 0 then vc xs zH_8 n true d 8 20 ml r t Q else vc xs zH_8 n true d 8 8 ml r t Q) := by
  rw [vc_q (o := (21, 0, 20, 0, [])) (by decide +kernel)]; rfl
theorem v_8_8 (xs : Option (List Int32)) (n : Nat) (b : Bool) (d : Nat) (ml : List Value) (t : T) (Q : Option Value → T → Prop) (st : List Value) : vc xs zH_8 (n + 1) b d 8 8 ml st t Q = vga ml 0 (fun v => vc xs zH_8 n true d 8 9 ml (.ref v :: st) t Q) := by
  rw [vc_q (o := (2, 0, 0, 0, [])) (by decide +kernel)]; rfl
theorem v_8_9 (xs : Option (List Int32)) (n : Nat) (b : Bool) (d : Nat) (ml : List Value) (t : T) (Q : Option Value → T → Prop) (u : Nat) (r : List Value) : vc xs zH_8 (n + 1) b d 8 9 ml (.ref u :: r) t Q = (vtag u = 0 ∧ vc xs zH_8 n true d 8 12 ml (.ref (tref t u 1) :: r) t Q) := by
  rw [vc_q (o := (25, 0, 0, 1, [])) (by decide +kernel)]; rfl
theorem v_8_12 (xs : Option (List Int32)) (n : Nat) (b : Bool) (d : Nat) (ml : List Value) (t : T) (Q : Option Value → T → Prop) (st : List Value) : vc xs zH_8 (n + 1) b d 8 12 ml st t Q = vgi ml 2 (fun v => vc xs zH_8 n true d 8 13 ml (.int v :: st) t Q) := by
  rw [vc_q (o := (1, 0, 2, 0, [])) (by decide +kernel)]; rfl
theorem v_8_13 (xs : Option (List Int32)) (n : Nat) (b : Bool) (d : Nat) (ml : List Value) (t : T) (Q : Option Value → T → Prop) (st : List Value) : vc xs zH_8 (n + 1) b d 8 13 ml st t Q = vc xs zH_8 n true d 8 14 ml (.int 3 :: st) t Q := by
  rw [vc_q (o := (0, 3, 0, 0, [])) (by decide +kernel)]; rfl
theorem v_8_14 (xs : Option (List Int32)) (n : Nat) (b : Bool) (d : Nat) (ml : List Value) (t : T) (Q : Option Value → T → Prop) (st : List Value) : vc xs zH_8 (n + 1) b d 8 14 ml st t Q = (st.all zc1 = true ∧ vtk 3 st [] (fun as rest => rest.length ≤ 8 ∧ vrc as 1 (twc d 134 as t (fun r t' => vc xs zH_8 n true d 8 17 ml (r.toList ++ rest) t' Q)))) := by
  rw [vc_q (o := (36, 0, 134, 2, [(0, 1)])) (by decide +kernel)]; rfl
theorem v_8_17 (xs : Option (List Int32)) (n : Nat) (b : Bool) (d : Nat) (ml : List Value) (t : T) (Q : Option Value → T → Prop) (u : Int32) (r : List Value) : vc xs zH_8 (n + 1) b d 8 17 ml (.int u :: r) t Q = (if u = 0 then vc xs zH_8 n true d 8 20 ml r t Q else vc xs zH_8 n true d 8 22 ml r t Q) := by
  rw [vc_q (o := (21, 0, 22, 1, [])) (by decide +kernel)]; rfl
theorem v_8_20 (xs : Option (List Int32)) (n : Nat) (b : Bool) (d : Nat) (ml : List Value) (t : T) (Q : Option Value → T → Prop) (st : List Value) : vc xs zH_8 (n + 1) b d 8 20 ml st t Q = vc xs zH_8 n true d 8 21 ml (.int (-1) :: st) t Q := by
  rw [vc_q (o := (0, (-1), 0, 0, [])) (by decide +kernel)]; rfl
theorem v_8_21 (xs : Option (List Int32)) (n : Nat) (b : Bool) (d : Nat) (ml : List Value) (t : T) (Q : Option Value → T → Prop) (v : Int32) : vc xs zH_8 (n + 1) b d 8 21 ml [.int v] t Q = Q (some (.int v)) t := by
  rw [vc_q (o := (40, 0, 0, 0, [])) (by decide +kernel)]; rfl
theorem v_8_22 (xs : Option (List Int32)) (n : Nat) (b : Bool) (d : Nat) (ml : List Value) (t : T) (Q : Option Value → T → Prop) (st : List Value) : vc xs zH_8 (n + 1) b d 8 22 ml st t Q = vga ml 0 (fun v => vc xs zH_8 n true d 8 23 ml (.ref v :: st) t Q) := by
  rw [vc_q (o := (2, 0, 0, 0, [])) (by decide +kernel)]; rfl
theorem v_8_23 (xs : Option (List Int32)) (n : Nat) (b : Bool) (d : Nat) (ml : List Value) (t : T) (Q : Option Value → T → Prop) (u : Nat) (r : List Value) : vc xs zH_8 (n + 1) b d 8 23 ml (.ref u :: r) t Q = (vtag u = 0 ∧ vc xs zH_8 n true d 8 26 ml (.ref (tref t u 1) :: r) t Q) := by
  rw [vc_q (o := (25, 0, 0, 1, [])) (by decide +kernel)]; rfl
theorem v_8_26 (xs : Option (List Int32)) (n : Nat) (b : Bool) (d : Nat) (ml : List Value) (t : T) (Q : Option Value → T → Prop) (u : Nat) (r : List Value) : vc xs zH_8 (n + 1) b d 8 26 ml (.ref u :: r) t Q = (vtag u = 1 ∧ vc xs zH_8 n true d 8 29 ml (.ref (tref t u 0) :: r) t Q) := by
  rw [vc_q (o := (25, 0, 1, 0, [])) (by decide +kernel)]; rfl
theorem v_8_29 (xs : Option (List Int32)) (n : Nat) (b : Bool) (d : Nat) (ml : List Value) (t : T) (Q : Option Value → T → Prop) (st : List Value) : vc xs zH_8 (n + 1) b d 8 29 ml st t Q = vgi ml 2 (fun v => vc xs zH_8 n true d 8 30 ml (.int v :: st) t Q) := by
  rw [vc_q (o := (1, 0, 2, 0, [])) (by decide +kernel)]; rfl
theorem v_8_30 (xs : Option (List Int32)) (n : Nat) (b : Bool) (d : Nat) (ml : List Value) (t : T) (Q : Option Value → T → Prop) (v : Int32) (u : Nat) (r : List Value) : vc xs zH_8 (n + 1) b d 8 30 ml (.int v :: .ref u :: r) t Q = (103 ≤ vtag u ∧ vtag u < 108 ∧ vinb v (vlen u) ∧ vc xs zH_8 n true d 8 31 ml (.ref (tref t u v.toNatClampNeg) :: r) t Q) := by
  rw [vc_q (o := (31, 0, 0, 0, [])) (by decide +kernel)]; rfl
theorem v_8_31 (xs : Option (List Int32)) (n : Nat) (b : Bool) (d : Nat) (ml : List Value) (t : T) (Q : Option Value → T → Prop) (u : Nat) (r : List Value) : vc xs zH_8 (n + 1) b d 8 31 ml (.ref u :: r) t Q = (vtag u = 2 ∧ vc xs zH_8 n true d 8 34 ml (.int (t.1 u 6) :: r) t Q) := by
  rw [vc_q (o := (24, 0, 2, 6, [])) (by decide +kernel)]; rfl
theorem v_8_34 (xs : Option (List Int32)) (n : Nat) (b : Bool) (d : Nat) (ml : List Value) (t : T) (Q : Option Value → T → Prop) (v : Int32) (r : List Value) : vc xs zH_8 (n + 1) b d 8 34 ml (.int v :: r) t Q = vset ml 5 (.int v) (fun l => vc xs zH_8 n true d 8 36 l r t Q) := by
  rw [vc_q (o := (3, 0, 5, 1, [])) (by decide +kernel)]; rfl
theorem v_8_36 (xs : Option (List Int32)) (n : Nat) (b : Bool) (d : Nat) (ml : List Value) (t : T) (Q : Option Value → T → Prop) (st : List Value) : vc xs zH_8 (n + 1) b d 8 36 ml st t Q = vga ml 0 (fun v => vc xs zH_8 n true d 8 37 ml (.ref v :: st) t Q) := by
  rw [vc_q (o := (2, 0, 0, 0, [])) (by decide +kernel)]; rfl
theorem v_8_37 (xs : Option (List Int32)) (n : Nat) (b : Bool) (d : Nat) (ml : List Value) (t : T) (Q : Option Value → T → Prop) (u : Nat) (r : List Value) : vc xs zH_8 (n + 1) b d 8 37 ml (.ref u :: r) t Q = (vtag u = 0 ∧ vc xs zH_8 n true d 8 40 ml (.ref (tref t u 0) :: r) t Q) := by
  rw [vc_q (o := (25, 0, 0, 0, [])) (by decide +kernel)]; rfl
theorem v_8_40 (xs : Option (List Int32)) (n : Nat) (b : Bool) (d : Nat) (ml : List Value) (t : T) (Q : Option Value → T → Prop) (st : List Value) : vc xs zH_8 (n + 1) b d 8 40 ml st t Q = vgi ml 1 (fun v => vc xs zH_8 n true d 8 41 ml (.int v :: st) t Q) := by
  rw [vc_q (o := (1, 0, 1, 0, [])) (by decide +kernel)]; rfl
theorem v_8_41 (xs : Option (List Int32)) (n : Nat) (b : Bool) (d : Nat) (ml : List Value) (t : T) (Q : Option Value → T → Prop) (v : Int32) (u : Nat) (r : List Value) : vc xs zH_8 (n + 1) b d 8 41 ml (.int v :: .ref u :: r) t Q = (103 ≤ vtag u ∧ vtag u < 108 ∧ vinb v (vlen u) ∧ vc xs zH_8 n true d 8 42 ml (.ref (tref t u v.toNatClampNeg) :: r) t Q) := by
  rw [vc_q (o := (31, 0, 0, 0, [])) (by decide +kernel)]; rfl
theorem v_8_42 (xs : Option (List Int32)) (n : Nat) (b : Bool) (d : Nat) (ml : List Value) (t : T) (Q : Option Value → T → Prop) (u : Nat) (r : List Value) : vc xs zH_8 (n + 1) b d 8 42 ml (.ref u :: r) t Q = (vtag u = 4 ∧ vc xs zH_8 n true d 8 45 ml (.int (t.1 u 0) :: r) t Q) := by
  rw [vc_q (o := (24, 0, 4, 0, [])) (by decide +kernel)]; rfl
theorem v_8_45 (xs : Option (List Int32)) (n : Nat) (b : Bool) (d : Nat) (ml : List Value) (t : T) (Q : Option Value → T → Prop) (v : Int32) (r : List Value) : vc xs zH_8 (n + 1) b d 8 45 ml (.int v :: r) t Q = vset ml 6 (.int v) (fun l => vc xs zH_8 n true d 8 47 l r t Q) := by
  rw [vc_q (o := (3, 0, 6, 1, [])) (by decide +kernel)]; rfl
theorem v_8_47 (xs : Option (List Int32)) (n : Nat) (b : Bool) (d : Nat) (ml : List Value) (t : T) (Q : Option Value → T → Prop) (st : List Value) : vc xs zH_8 (n + 1) b d 8 47 ml st t Q = vgi ml 5 (fun v => vc xs zH_8 n true d 8 49 ml (.int v :: st) t Q) := by
  rw [vc_q (o := (1, 0, 5, 1, [])) (by decide +kernel)]; rfl
theorem v_8_49 (xs : Option (List Int32)) (n : Nat) (b : Bool) (d : Nat) (ml : List Value) (t : T) (Q : Option Value → T → Prop) (st : List Value) : vc xs zH_8 (n + 1) b d 8 49 ml st t Q = vc xs zH_8 n true d 8 50 ml (.int 1 :: st) t Q := by
  rw [vc_q (o := (0, 1, 0, 0, [])) (by decide +kernel)]; rfl
theorem v_8_50 (xs : Option (List Int32)) (n : Nat) (b : Bool) (d : Nat) (ml : List Value) (t : T) (Q : Option Value → T → Prop) (u v : Int32) (r : List Value) : vc xs zH_8 (n + 1) b d 8 50 ml (.int v :: .int u :: r) t Q = vc xs zH_8 n true d 8 51 ml (.int (u &&& v) :: r) t Q := by
  rw [vc_q (o := (9, 0, 0, 0, [])) (by decide +kernel)]; rfl
theorem v_8_51 (xs : Option (List Int32)) (n : Nat) (b : Bool) (d : Nat) (ml : List Value) (t : T) (Q : Option Value → T → Prop) (u : Int32) (r : List Value) : vc xs zH_8 (n + 1) b d 8 51 ml (.int u :: r) t Q = (if u = 0 then vc xs zH_8 n true d 8 63 ml r t Q else vc xs zH_8 n true d 8 54 ml r t Q) := by
  rw [vc_q (o := (21, 0, 63, 0, [])) (by decide +kernel)]; rfl
theorem v_8_54 (xs : Option (List Int32)) (n : Nat) (b : Bool) (d : Nat) (ml : List Value) (t : T) (Q : Option Value → T → Prop) (st : List Value) : vc xs zH_8 (n + 1) b d 8 54 ml st t Q = vgi ml 3 (fun v => vc xs zH_8 n true d 8 55 ml (.int v :: st) t Q) := by
  rw [vc_q (o := (1, 0, 3, 0, [])) (by decide +kernel)]; rfl
theorem v_8_55 (xs : Option (List Int32)) (n : Nat) (b : Bool) (d : Nat) (ml : List Value) (t : T) (Q : Option Value → T → Prop) (st : List Value) : vc xs zH_8 (n + 1) b d 8 55 ml st t Q = vgi ml 6 (fun v => vc xs zH_8 n true d 8 57 ml (.int v :: st) t Q) := by
  rw [vc_q (o := (1, 0, 6, 1, [])) (by decide +kernel)]; rfl
theorem v_8_57 (xs : Option (List Int32)) (n : Nat) (b : Bool) (d : Nat) (ml : List Value) (t : T) (Q : Option Value → T → Prop) (st : List Value) : vc xs zH_8 (n + 1) b d 8 57 ml st t Q = (st.all zc1 = true ∧ vtk 2 st [] (fun as rest => rest.length ≤ 8 ∧ twc d 22 as t (fun r t' => vc xs zH_8 n true d 8 60 ml (r.toList ++ rest) t' Q))) := by
  rw [vc_q (o := (37, 0, 22, 2, [])) (by decide +kernel)]; rfl
theorem v_8_60 (xs : Option (List Int32)) (n : Nat) (b : Bool) (d : Nat) (ml : List Value) (t : T) (Q : Option Value → T → Prop) (u : Int32) (r : List Value) : vc xs zH_8 (n + 1) b d 8 60 ml (.int u :: r) t Q = (if u = 0 then vc xs zH_8 n true d 8 80 ml r t Q else vc xs zH_8 n true d 8 63 ml r t Q) := by
  rw [vc_q (o := (21, 0, 80, 0, [])) (by decide +kernel)]; rfl
theorem v_8_63 (xs : Option (List Int32)) (n : Nat) (b : Bool) (d : Nat) (ml : List Value) (t : T) (Q : Option Value → T → Prop) (st : List Value) : vc xs zH_8 (n + 1) b d 8 63 ml st t Q = vgi ml 5 (fun v => vc xs zH_8 n true d 8 65 ml (.int v :: st) t Q) := by
  rw [vc_q (o := (1, 0, 5, 1, [])) (by decide +kernel)]; rfl
theorem v_8_65 (xs : Option (List Int32)) (n : Nat) (b : Bool) (d : Nat) (ml : List Value) (t : T) (Q : Option Value → T → Prop) (st : List Value) : vc xs zH_8 (n + 1) b d 8 65 ml st t Q = vc xs zH_8 n true d 8 66 ml (.int 2 :: st) t Q := by
  rw [vc_q (o := (0, 2, 0, 0, [])) (by decide +kernel)]; rfl
theorem v_8_66 (xs : Option (List Int32)) (n : Nat) (b : Bool) (d : Nat) (ml : List Value) (t : T) (Q : Option Value → T → Prop) (u v : Int32) (r : List Value) : vc xs zH_8 (n + 1) b d 8 66 ml (.int v :: .int u :: r) t Q = vc xs zH_8 n true d 8 67 ml (.int (u &&& v) :: r) t Q := by
  rw [vc_q (o := (9, 0, 0, 0, [])) (by decide +kernel)]; rfl
theorem v_8_67 (xs : Option (List Int32)) (n : Nat) (b : Bool) (d : Nat) (ml : List Value) (t : T) (Q : Option Value → T → Prop) (u : Int32) (r : List Value) : vc xs zH_8 (n + 1) b d 8 67 ml (.int u :: r) t Q = (if u = 0 then vc xs zH_8 n true d 8 82 ml r t Q else vc xs zH_8 n true d 8 70 ml r t Q) := by
  rw [vc_q (o := (21, 0, 82, 0, [])) (by decide +kernel)]; rfl
theorem v_8_70 (xs : Option (List Int32)) (n : Nat) (b : Bool) (d : Nat) (ml : List Value) (t : T) (Q : Option Value → T → Prop) (st : List Value) : vc xs zH_8 (n + 1) b d 8 70 ml st t Q = vgi ml 4 (fun v => vc xs zH_8 n true d 8 72 ml (.int v :: st) t Q) := by
  rw [vc_q (o := (1, 0, 4, 1, [])) (by decide +kernel)]; rfl
theorem v_8_72 (xs : Option (List Int32)) (n : Nat) (b : Bool) (d : Nat) (ml : List Value) (t : T) (Q : Option Value → T → Prop) (st : List Value) : vc xs zH_8 (n + 1) b d 8 72 ml st t Q = vgi ml 6 (fun v => vc xs zH_8 n true d 8 74 ml (.int v :: st) t Q) := by
  rw [vc_q (o := (1, 0, 6, 1, [])) (by decide +kernel)]; rfl
theorem v_8_74 (xs : Option (List Int32)) (n : Nat) (b : Bool) (d : Nat) (ml : List Value) (t : T) (Q : Option Value → T → Prop) (st : List Value) : vc xs zH_8 (n + 1) b d 8 74 ml st t Q = (st.all zc1 = true ∧ vtk 2 st [] (fun as rest => rest.length ≤ 8 ∧ twc d 22 as t (fun r t' => vc xs zH_8 n true d 8 77 ml (r.toList ++ rest) t' Q))) := by
  rw [vc_q (o := (37, 0, 22, 2, [])) (by decide +kernel)]; rfl
theorem v_8_77 (xs : Option (List Int32)) (n : Nat) (b : Bool) (d : Nat) (ml : List Value) (t : T) (Q : Option Value → T → Prop) (u : Int32) (r : List Value) : vc xs zH_8 (n + 1) b d 8 77 ml (.int u :: r) t Q = (if u = 0 then vc xs zH_8 n true d 8 80 ml r t Q else vc xs zH_8 n true d 8 82 ml r t Q) := by
  rw [vc_q (o := (21, 0, 82, 1, [])) (by decide +kernel)]; rfl
theorem v_8_80 (xs : Option (List Int32)) (n : Nat) (b : Bool) (d : Nat) (ml : List Value) (t : T) (Q : Option Value → T → Prop) (st : List Value) : vc xs zH_8 (n + 1) b d 8 80 ml st t Q = vc xs zH_8 n true d 8 81 ml (.int (-1) :: st) t Q := by
  rw [vc_q (o := (0, (-1), 0, 0, [])) (by decide +kernel)]; rfl
theorem v_8_81 (xs : Option (List Int32)) (n : Nat) (b : Bool) (d : Nat) (ml : List Value) (t : T) (Q : Option Value → T → Prop) (v : Int32) : vc xs zH_8 (n + 1) b d 8 81 ml [.int v] t Q = Q (some (.int v)) t := by
  rw [vc_q (o := (40, 0, 0, 0, [])) (by decide +kernel)]; rfl
theorem v_8_82 (xs : Option (List Int32)) (n : Nat) (b : Bool) (d : Nat) (ml : List Value) (t : T) (Q : Option Value → T → Prop) (st : List Value) : vc xs zH_8 (n + 1) b d 8 82 ml st t Q = vga ml 0 (fun v => vc xs zH_8 n true d 8 83 ml (.ref v :: st) t Q) := by
  rw [vc_q (o := (2, 0, 0, 0, [])) (by decide +kernel)]; rfl
theorem v_8_83 (xs : Option (List Int32)) (n : Nat) (b : Bool) (d : Nat) (ml : List Value) (t : T) (Q : Option Value → T → Prop) (u : Nat) (r : List Value) : vc xs zH_8 (n + 1) b d 8 83 ml (.ref u :: r) t Q = (vtag u = 0 ∧ vc xs zH_8 n true d 8 86 ml (.ref (tref t u 2) :: r) t Q) := by
  rw [vc_q (o := (25, 0, 0, 2, [])) (by decide +kernel)]; rfl
theorem v_8_86 (xs : Option (List Int32)) (n : Nat) (b : Bool) (d : Nat) (ml : List Value) (t : T) (Q : Option Value → T → Prop) (st : List Value) : vc xs zH_8 (n + 1) b d 8 86 ml st t Q = vga ml 0 (fun v => vc xs zH_8 n true d 8 87 ml (.ref v :: st) t Q) := by
  rw [vc_q (o := (2, 0, 0, 0, [])) (by decide +kernel)]; rfl
theorem v_8_87 (xs : Option (List Int32)) (n : Nat) (b : Bool) (d : Nat) (ml : List Value) (t : T) (Q : Option Value → T → Prop) (u : Nat) (r : List Value) : vc xs zH_8 (n + 1) b d 8 87 ml (.ref u :: r) t Q = (vtag u = 0 ∧ vc xs zH_8 n true d 8 90 ml (.ref (tref t u 0) :: r) t Q) := by
  rw [vc_q (o := (25, 0, 0, 0, [])) (by decide +kernel)]; rfl
theorem v_8_90 (xs : Option (List Int32)) (n : Nat) (b : Bool) (d : Nat) (ml : List Value) (t : T) (Q : Option Value → T → Prop) (st : List Value) : vc xs zH_8 (n + 1) b d 8 90 ml st t Q = vgi ml 1 (fun v => vc xs zH_8 n true d 8 91 ml (.int v :: st) t Q) := by
  rw [vc_q (o := (1, 0, 1, 0, [])) (by decide +kernel)]; rfl
theorem v_8_91 (xs : Option (List Int32)) (n : Nat) (b : Bool) (d : Nat) (ml : List Value) (t : T) (Q : Option Value → T → Prop) (v : Int32) (u : Nat) (r : List Value) : vc xs zH_8 (n + 1) b d 8 91 ml (.int v :: .ref u :: r) t Q = (103 ≤ vtag u ∧ vtag u < 108 ∧ vinb v (vlen u) ∧ vc xs zH_8 n true d 8 92 ml (.ref (tref t u v.toNatClampNeg) :: r) t Q) := by
  rw [vc_q (o := (31, 0, 0, 0, [])) (by decide +kernel)]; rfl
theorem v_8_92 (xs : Option (List Int32)) (n : Nat) (b : Bool) (d : Nat) (ml : List Value) (t : T) (Q : Option Value → T → Prop) (st : List Value) : vc xs zH_8 (n + 1) b d 8 92 ml st t Q = vgi ml 2 (fun v => vc xs zH_8 n true d 8 93 ml (.int v :: st) t Q) := by
  rw [vc_q (o := (1, 0, 2, 0, [])) (by decide +kernel)]; rfl
theorem v_8_93 (xs : Option (List Int32)) (n : Nat) (b : Bool) (d : Nat) (ml : List Value) (t : T) (Q : Option Value → T → Prop) (st : List Value) : vc xs zH_8 (n + 1) b d 8 93 ml st t Q = vgi ml 3 (fun v => vc xs zH_8 n true d 8 94 ml (.int v :: st) t Q) := by
  rw [vc_q (o := (1, 0, 3, 0, [])) (by decide +kernel)]; rfl
theorem v_8_94 (xs : Option (List Int32)) (n : Nat) (b : Bool) (d : Nat) (ml : List Value) (t : T) (Q : Option Value → T → Prop) (st : List Value) : vc xs zH_8 (n + 1) b d 8 94 ml st t Q = vgi ml 4 (fun v => vc xs zH_8 n true d 8 96 ml (.int v :: st) t Q) := by
  rw [vc_q (o := (1, 0, 4, 1, [])) (by decide +kernel)]; rfl
theorem v_8_96 (xs : Option (List Int32)) (n : Nat) (b : Bool) (d : Nat) (ml : List Value) (t : T) (Q : Option Value → T → Prop) (st : List Value) : vc xs zH_8 (n + 1) b d 8 96 ml st t Q = (st.all zc1 = true ∧ vtk 5 st [] (fun as rest => rest.length ≤ 8 ∧ vrc as 3 (twc d 122 as t (fun r t' => vc xs zH_8 n true d 8 99 ml (r.toList ++ rest) t' Q)))) := by
  rw [vc_q (o := (36, 0, 122, 4, [(0, 3)])) (by decide +kernel)]; rfl
theorem v_8_99 (xs : Option (List Int32)) (n : Nat) (b : Bool) (d : Nat) (ml : List Value) (t : T) (Q : Option Value → T → Prop) (v : Int32) : vc xs zH_8 (n + 1) b d 8 99 ml [.int v] t Q = Q (some (.int v)) t := by
  rw [vc_q (o := (40, 0, 0, 0, [])) (by decide +kernel)]; rfl
def zH_9 : List Nat := []
theorem v_9_0 (xs : Option (List Int32)) (n : Nat) (b : Bool) (d : Nat) (ml : List Value) (t : T) (Q : Option Value → T → Prop) (st : List Value) : vc xs zH_9 (n + 1) b d 9 0 ml st t Q = vgi ml 1 (fun v => vc xs zH_9 n true d 9 1 ml (.int v :: st) t Q) := by
  rw [vc_q (o := (1, 0, 1, 0, [])) (by decide +kernel)]; rfl
theorem v_9_1 (xs : Option (List Int32)) (n : Nat) (b : Bool) (d : Nat) (ml : List Value) (t : T) (Q : Option Value → T → Prop) (st : List Value) : vc xs zH_9 (n + 1) b d 9 1 ml st t Q = vc xs zH_9 n true d 9 2 ml (.int 4 :: st) t Q := by
  rw [vc_q (o := (0, 4, 0, 0, [])) (by decide +kernel)]; rfl
theorem v_9_2 (xs : Option (List Int32)) (n : Nat) (b : Bool) (d : Nat) (ml : List Value) (t : T) (Q : Option Value → T → Prop) (st : List Value) : vc xs zH_9 (n + 1) b d 9 2 ml st t Q = (st.all zc1 = true ∧ vtk 2 st [] (fun as rest => rest.length ≤ 8 ∧ twc d 22 as t (fun r t' => vc xs zH_9 n true d 9 5 ml (r.toList ++ rest) t' Q))) := by
  rw [vc_q (o := (37, 0, 22, 2, [])) (by decide +kernel)]; rfl
theorem v_9_5 (xs : Option (List Int32)) (n : Nat) (b : Bool) (d : Nat) (ml : List Value) (t : T) (Q : Option Value → T → Prop) (u : Int32) (r : List Value) : vc xs zH_9 (n + 1) b d 9 5 ml (.int u :: r) t Q = (if u = 0 then vc xs zH_9 n true d 9 8 ml r t Q else vc xs zH_9 n true d 9 10 ml r t Q) := by
  rw [vc_q (o := (21, 0, 10, 1, [])) (by decide +kernel)]; rfl
theorem v_9_8 (xs : Option (List Int32)) (n : Nat) (b : Bool) (d : Nat) (ml : List Value) (t : T) (Q : Option Value → T → Prop) (st : List Value) : vc xs zH_9 (n + 1) b d 9 8 ml st t Q = vc xs zH_9 n true d 9 9 ml (.int (-1) :: st) t Q := by
  rw [vc_q (o := (0, (-1), 0, 0, [])) (by decide +kernel)]; rfl
theorem v_9_9 (xs : Option (List Int32)) (n : Nat) (b : Bool) (d : Nat) (ml : List Value) (t : T) (Q : Option Value → T → Prop) (v : Int32) : vc xs zH_9 (n + 1) b d 9 9 ml [.int v] t Q = Q (some (.int v)) t := by
  rw [vc_q (o := (40, 0, 0, 0, [])) (by decide +kernel)]; rfl
theorem v_9_10 (xs : Option (List Int32)) (n : Nat) (b : Bool) (d : Nat) (ml : List Value) (t : T) (Q : Option Value → T → Prop) (st : List Value) : vc xs zH_9 (n + 1) b d 9 10 ml st t Q = vga ml 0 (fun v => vc xs zH_9 n true d 9 11 ml (.ref v :: st) t Q) := by
  rw [vc_q (o := (2, 0, 0, 0, [])) (by decide +kernel)]; rfl
theorem v_9_11 (xs : Option (List Int32)) (n : Nat) (b : Bool) (d : Nat) (ml : List Value) (t : T) (Q : Option Value → T → Prop) (u : Nat) (r : List Value) : vc xs zH_9 (n + 1) b d 9 11 ml (.ref u :: r) t Q = (vtag u = 0 ∧ vc xs zH_9 n true d 9 14 ml (.ref (tref t u 6) :: r) t Q) := by
  rw [vc_q (o := (25, 0, 0, 6, [])) (by decide +kernel)]; rfl
theorem v_9_14 (xs : Option (List Int32)) (n : Nat) (b : Bool) (d : Nat) (ml : List Value) (t : T) (Q : Option Value → T → Prop) (st : List Value) : vc xs zH_9 (n + 1) b d 9 14 ml st t Q = vga ml 0 (fun v => vc xs zH_9 n true d 9 15 ml (.ref v :: st) t Q) := by
  rw [vc_q (o := (2, 0, 0, 0, [])) (by decide +kernel)]; rfl
theorem v_9_15 (xs : Option (List Int32)) (n : Nat) (b : Bool) (d : Nat) (ml : List Value) (t : T) (Q : Option Value → T → Prop) (u : Nat) (r : List Value) : vc xs zH_9 (n + 1) b d 9 15 ml (.ref u :: r) t Q = (vtag u = 0 ∧ vc xs zH_9 n true d 9 18 ml (.ref (tref t u 0) :: r) t Q) := by
  rw [vc_q (o := (25, 0, 0, 0, [])) (by decide +kernel)]; rfl
theorem v_9_18 (xs : Option (List Int32)) (n : Nat) (b : Bool) (d : Nat) (ml : List Value) (t : T) (Q : Option Value → T → Prop) (st : List Value) : vc xs zH_9 (n + 1) b d 9 18 ml st t Q = vgi ml 1 (fun v => vc xs zH_9 n true d 9 19 ml (.int v :: st) t Q) := by
  rw [vc_q (o := (1, 0, 1, 0, [])) (by decide +kernel)]; rfl
theorem v_9_19 (xs : Option (List Int32)) (n : Nat) (b : Bool) (d : Nat) (ml : List Value) (t : T) (Q : Option Value → T → Prop) (v : Int32) (u : Nat) (r : List Value) : vc xs zH_9 (n + 1) b d 9 19 ml (.int v :: .ref u :: r) t Q = (103 ≤ vtag u ∧ vtag u < 108 ∧ vinb v (vlen u) ∧ vc xs zH_9 n true d 9 20 ml (.ref (tref t u v.toNatClampNeg) :: r) t Q) := by
  rw [vc_q (o := (31, 0, 0, 0, [])) (by decide +kernel)]; rfl
theorem v_9_20 (xs : Option (List Int32)) (n : Nat) (b : Bool) (d : Nat) (ml : List Value) (t : T) (Q : Option Value → T → Prop) (st : List Value) : vc xs zH_9 (n + 1) b d 9 20 ml st t Q = (st.all zc1 = true ∧ vtk 2 st [] (fun as rest => rest.length ≤ 8 ∧ vrc as 9 (twc d 141 as t (fun r t' => vc xs zH_9 n true d 9 23 ml (r.toList ++ rest) t' Q)))) := by
  rw [vc_q (o := (36, 0, 141, 1, [(0, 9)])) (by decide +kernel)]; rfl
theorem v_9_23 (xs : Option (List Int32)) (n : Nat) (b : Bool) (d : Nat) (ml : List Value) (t : T) (Q : Option Value → T → Prop) (st : List Value) : vc xs zH_9 (n + 1) b d 9 23 ml st t Q = vga ml 0 (fun v => vc xs zH_9 n true d 9 24 ml (.ref v :: st) t Q) := by
  rw [vc_q (o := (2, 0, 0, 0, [])) (by decide +kernel)]; rfl
theorem v_9_24 (xs : Option (List Int32)) (n : Nat) (b : Bool) (d : Nat) (ml : List Value) (t : T) (Q : Option Value → T → Prop) (u : Nat) (r : List Value) : vc xs zH_9 (n + 1) b d 9 24 ml (.ref u :: r) t Q = (vtag u = 0 ∧ vc xs zH_9 n true d 9 27 ml (.ref (tref t u 0) :: r) t Q) := by
  rw [vc_q (o := (25, 0, 0, 0, [])) (by decide +kernel)]; rfl
theorem v_9_27 (xs : Option (List Int32)) (n : Nat) (b : Bool) (d : Nat) (ml : List Value) (t : T) (Q : Option Value → T → Prop) (st : List Value) : vc xs zH_9 (n + 1) b d 9 27 ml st t Q = vgi ml 1 (fun v => vc xs zH_9 n true d 9 28 ml (.int v :: st) t Q) := by
  rw [vc_q (o := (1, 0, 1, 0, [])) (by decide +kernel)]; rfl
theorem v_9_28 (xs : Option (List Int32)) (n : Nat) (b : Bool) (d : Nat) (ml : List Value) (t : T) (Q : Option Value → T → Prop) (v : Int32) (u : Nat) (r : List Value) : vc xs zH_9 (n + 1) b d 9 28 ml (.int v :: .ref u :: r) t Q = (103 ≤ vtag u ∧ vtag u < 108 ∧ vinb v (vlen u) ∧ vc xs zH_9 n true d 9 29 ml (.ref (tref t u v.toNatClampNeg) :: r) t Q) := by
  rw [vc_q (o := (31, 0, 0, 0, [])) (by decide +kernel)]; rfl
theorem v_9_29 (xs : Option (List Int32)) (n : Nat) (b : Bool) (d : Nat) (ml : List Value) (t : T) (Q : Option Value → T → Prop) (u : Nat) (r : List Value) : vc xs zH_9 (n + 1) b d 9 29 ml (.ref u :: r) t Q = (vtag u = 4 ∧ vc xs zH_9 n true d 9 32 ml (.int (t.1 u 0) :: r) t Q) := by
  rw [vc_q (o := (24, 0, 4, 0, [])) (by decide +kernel)]; rfl
theorem v_9_32 (xs : Option (List Int32)) (n : Nat) (b : Bool) (d : Nat) (ml : List Value) (t : T) (Q : Option Value → T → Prop) (v : Int32) : vc xs zH_9 (n + 1) b d 9 32 ml [.int v] t Q = Q (some (.int v)) t := by
  rw [vc_q (o := (40, 0, 0, 0, [])) (by decide +kernel)]; rfl
def zH_10 : List Nat := []
theorem v_10_0 (xs : Option (List Int32)) (n : Nat) (b : Bool) (d : Nat) (ml : List Value) (t : T) (Q : Option Value → T → Prop) (st : List Value) : vc xs zH_10 (n + 1) b d 10 0 ml st t Q = vgi ml 1 (fun v => vc xs zH_10 n true d 10 1 ml (.int v :: st) t Q) := by
  rw [vc_q (o := (1, 0, 1, 0, [])) (by decide +kernel)]; rfl
theorem v_10_1 (xs : Option (List Int32)) (n : Nat) (b : Bool) (d : Nat) (ml : List Value) (t : T) (Q : Option Value → T → Prop) (st : List Value) : vc xs zH_10 (n + 1) b d 10 1 ml st t Q = vc xs zH_10 n true d 10 2 ml (.int 4 :: st) t Q := by
  rw [vc_q (o := (0, 4, 0, 0, [])) (by decide +kernel)]; rfl
theorem v_10_2 (xs : Option (List Int32)) (n : Nat) (b : Bool) (d : Nat) (ml : List Value) (t : T) (Q : Option Value → T → Prop) (st : List Value) : vc xs zH_10 (n + 1) b d 10 2 ml st t Q = (st.all zc1 = true ∧ vtk 2 st [] (fun as rest => rest.length ≤ 8 ∧ twc d 22 as t (fun r t' => vc xs zH_10 n true d 10 5 ml (r.toList ++ rest) t' Q))) := by
  rw [vc_q (o := (37, 0, 22, 2, [])) (by decide +kernel)]; rfl
theorem v_10_5 (xs : Option (List Int32)) (n : Nat) (b : Bool) (d : Nat) (ml : List Value) (t : T) (Q : Option Value → T → Prop) (u : Int32) (r : List Value) : vc xs zH_10 (n + 1) b d 10 5 ml (.int u :: r) t Q = (if u = 0 then vc xs zH_10 n true d 10 42 ml r t Q else vc xs zH_10 n true d 10 8 ml r t Q) := by
  rw [vc_q (o := (21, 0, 42, 0, [])) (by decide +kernel)]; rfl
theorem v_10_8 (xs : Option (List Int32)) (n : Nat) (b : Bool) (d : Nat) (ml : List Value) (t : T) (Q : Option Value → T → Prop) (st : List Value) : vc xs zH_10 (n + 1) b d 10 8 ml st t Q = vgi ml 2 (fun v => vc xs zH_10 n true d 10 9 ml (.int v :: st) t Q) := by
  rw [vc_q (o := (1, 0, 2, 0, [])) (by decide +kernel)]; rfl
theorem v_10_9 (xs : Option (List Int32)) (n : Nat) (b : Bool) (d : Nat) (ml : List Value) (t : T) (Q : Option Value → T → Prop) (st : List Value) : vc xs zH_10 (n + 1) b d 10 9 ml st t Q = vc xs zH_10 n true d 10 10 ml (.int 4 :: st) t Q := by
  rw [vc_q (o := (0, 4, 0, 0, [])) (by decide +kernel)]; rfl
theorem v_10_10 (xs : Option (List Int32)) (n : Nat) (b : Bool) (d : Nat) (ml : List Value) (t : T) (Q : Option Value → T → Prop) (st : List Value) : vc xs zH_10 (n + 1) b d 10 10 ml st t Q = (st.all zc1 = true ∧ vtk 2 st [] (fun as rest => rest.length ≤ 8 ∧ twc d 22 as t (fun r t' => vc xs zH_10 n true d 10 13 ml (r.toList ++ rest) t' Q))) := by
  rw [vc_q (o := (37, 0, 22, 2, [])) (by decide +kernel)]; rfl
theorem v_10_13 (xs : Option (List Int32)) (n : Nat) (b : Bool) (d : Nat) (ml : List Value) (t : T) (Q : Option Value → T → Prop) (u : Int32) (r : List Value) : vc xs zH_10 (n + 1) b d 10 13 ml (.int u :: r) t Q = (if u = 0 then vc xs zH_10 n true d 10 42 ml r t Q else vc xs zH_10 n true d 10 16 ml r t Q) := by
  rw [vc_q (o := (21, 0, 42, 0, [])) (by decide +kernel)]; rfl
theorem v_10_16 (xs : Option (List Int32)) (n : Nat) (b : Bool) (d : Nat) (ml : List Value) (t : T) (Q : Option Value → T → Prop) (st : List Value) : vc xs zH_10 (n + 1) b d 10 16 ml st t Q = vga ml 0 (fun v => vc xs zH_10 n true d 10 17 ml (.ref v :: st) t Q) := by
  rw [vc_q (o := (2, 0, 0, 0, [])) (by decide +kernel)]; rfl
theorem v_10_17 (xs : Option (List Int32)) (n : Nat) (b : Bool) (d : Nat) (ml : List Value) (t : T) (Q : Option Value → T → Prop) (u : Nat) (r : List Value) : vc xs zH_10 (n + 1) b d 10 17 ml (.ref u :: r) t Q = (vtag u = 0 ∧ vc xs zH_10 n true d 10 20 ml (.ref (tref t u 7) :: r) t Q) := by
  rw [vc_q (o := (25, 0, 0, 7, [])) (by decide +kernel)]; rfl
theorem v_10_20 (xs : Option (List Int32)) (n : Nat) (b : Bool) (d : Nat) (ml : List Value) (t : T) (Q : Option Value → T → Prop) (st : List Value) : vc xs zH_10 (n + 1) b d 10 20 ml st t Q = vga ml 0 (fun v => vc xs zH_10 n true d 10 21 ml (.ref v :: st) t Q) := by
  rw [vc_q (o := (2, 0, 0, 0, [])) (by decide +kernel)]; rfl
theorem v_10_21 (xs : Option (List Int32)) (n : Nat) (b : Bool) (d : Nat) (ml : List Value) (t : T) (Q : Option Value → T → Prop) (u : Nat) (r : List Value) : vc xs zH_10 (n + 1) b d 10 21 ml (.ref u :: r) t Q = (vtag u = 0 ∧ vc xs zH_10 n true d 10 24 ml (.ref (tref t u 0) :: r) t Q) := by
  rw [vc_q (o := (25, 0, 0, 0, [])) (by decide +kernel)]; rfl
theorem v_10_24 (xs : Option (List Int32)) (n : Nat) (b : Bool) (d : Nat) (ml : List Value) (t : T) (Q : Option Value → T → Prop) (st : List Value) : vc xs zH_10 (n + 1) b d 10 24 ml st t Q = vgi ml 1 (fun v => vc xs zH_10 n true d 10 25 ml (.int v :: st) t Q) := by
  rw [vc_q (o := (1, 0, 1, 0, [])) (by decide +kernel)]; rfl
theorem v_10_25 (xs : Option (List Int32)) (n : Nat) (b : Bool) (d : Nat) (ml : List Value) (t : T) (Q : Option Value → T → Prop) (v : Int32) (u : Nat) (r : List Value) : vc xs zH_10 (n + 1) b d 10 25 ml (.int v :: .ref u :: r) t Q = (103 ≤ vtag u ∧ vtag u < 108 ∧ vinb v (vlen u) ∧ vc xs zH_10 n true d 10 26 ml (.ref (tref t u v.toNatClampNeg) :: r) t Q) := by
  rw [vc_q (o := (31, 0, 0, 0, [])) (by decide +kernel)]; rfl
theorem v_10_26 (xs : Option (List Int32)) (n : Nat) (b : Bool) (d : Nat) (ml : List Value) (t : T) (Q : Option Value → T → Prop) (st : List Value) : vc xs zH_10 (n + 1) b d 10 26 ml st t Q = vga ml 0 (fun v => vc xs zH_10 n true d 10 27 ml (.ref v :: st) t Q) := by
  rw [vc_q (o := (2, 0, 0, 0, [])) (by decide +kernel)]; rfl
theorem v_10_27 (xs : Option (List Int32)) (n : Nat) (b : Bool) (d : Nat) (ml : List Value) (t : T) (Q : Option Value → T → Prop) (u : Nat) (r : List Value) : vc xs zH_10 (n + 1) b d 10 27 ml (.ref u :: r) t Q = (vtag u = 0 ∧ vc xs zH_10 n true d 10 30 ml (.ref (tref t u 0) :: r) t Q) := by
  rw [vc_q (o := (25, 0, 0, 0, [])) (by decide +kernel)]; rfl
theorem v_10_30 (xs : Option (List Int32)) (n : Nat) (b : Bool) (d : Nat) (ml : List Value) (t : T) (Q : Option Value → T → Prop) (st : List Value) : vc xs zH_10 (n + 1) b d 10 30 ml st t Q = vgi ml 2 (fun v => vc xs zH_10 n true d 10 31 ml (.int v :: st) t Q) := by
  rw [vc_q (o := (1, 0, 2, 0, [])) (by decide +kernel)]; rfl
theorem v_10_31 (xs : Option (List Int32)) (n : Nat) (b : Bool) (d : Nat) (ml : List Value) (t : T) (Q : Option Value → T → Prop) (v : Int32) (u : Nat) (r : List Value) : vc xs zH_10 (n + 1) b d 10 31 ml (.int v :: .ref u :: r) t Q = (103 ≤ vtag u ∧ vtag u < 108 ∧ vinb v (vlen u) ∧ vc xs zH_10 n true d 10 32 ml (.ref (tref t u v.toNatClampNeg) :: r) t Q) := by
  rw [vc_q (o := (31, 0, 0, 0, [])) (by decide +kernel)]; rfl
theorem v_10_32 (xs : Option (List Int32)) (n : Nat) (b : Bool) (d : Nat) (ml : List Value) (t : T) (Q : Option Value → T → Prop) (st : List Value) : vc xs zH_10 (n + 1) b d 10 32 ml st t Q = (st.all zc1 = true ∧ vtk 3 st [] (fun as rest => rest.length ≤ 8 ∧ vrc as 10 (twc d 116 as t (fun r t' => vc xs zH_10 n true d 10 35 ml (r.toList ++ rest) t' Q)))) := by
  rw [vc_q (o := (36, 0, 116, 2, [(0, 10)])) (by decide +kernel)]; rfl
theorem v_10_35 (xs : Option (List Int32)) (n : Nat) (b : Bool) (d : Nat) (ml : List Value) (t : T) (Q : Option Value → T → Prop) (u : Int32) (r : List Value) : vc xs zH_10 (n + 1) b d 10 35 ml (.int u :: r) t Q = (if u = 0 then vc xs zH_10 n true d 10 42 ml r t Q else vc xs zH_10 n true d 10 38 ml r t Q) := by
  rw [vc_q (o := (21, 0, 42, 0, [])) (by decide +kernel)]; rfl
theorem v_10_38 (xs : Option (List Int32)) (n : Nat) (b : Bool) (d : Nat) (ml : List Value) (t : T) (Q : Option Value → T → Prop) (st : List Value) : vc xs zH_10 (n + 1) b d 10 38 ml st t Q = vc xs zH_10 n true d 10 39 ml (.int 1 :: st) t Q := by
  rw [vc_q (o := (0, 1, 0, 0, [])) (by decide +kernel)]; rfl
theorem v_10_39 (xs : Option (List Int32)) (n : Nat) (b : Bool) (d : Nat) (ml : List Value) (t : T) (Q : Option Value → T → Prop) (st : List Value) : vc xs zH_10 (n + 1) b d 10 39 ml st t Q = vc xs zH_10 n true d 10 43 ml st t Q := by
  rw [vc_q (o := (22, 0, 43, 0, [])) (by decide +kernel)]; rfl
theorem v_10_42 (xs : Option (List Int32)) (n : Nat) (b : Bool) (d : Nat) (ml : List Value) (t : T) (Q : Option Value → T → Prop) (st : List Value) : vc xs zH_10 (n + 1) b d 10 42 ml st t Q = vc xs zH_10 n true d 10 43 ml (.int 0 :: st) t Q := by
  rw [vc_q (o := (0, 0, 0, 0, [])) (by decide +kernel)]; rfl
theorem v_10_43 (xs : Option (List Int32)) (n : Nat) (b : Bool) (d : Nat) (ml : List Value) (t : T) (Q : Option Value → T → Prop) (v : Int32) : vc xs zH_10 (n + 1) b d 10 43 ml [.int v] t Q = ((v = 0 ∨ v = 1) ∧ Q (some (.int v)) t) := by
  rw [vc_q (o := (41, 0, 0, 0, [])) (by decide +kernel)]; rfl
def zH_11 : List Nat := []
theorem v_11_0 (xs : Option (List Int32)) (n : Nat) (b : Bool) (d : Nat) (ml : List Value) (t : T) (Q : Option Value → T → Prop) (st : List Value) : vc xs zH_11 (n + 1) b d 11 0 ml st t Q = vgi ml 2 (fun v => vc xs zH_11 n true d 11 1 ml (.int v :: st) t Q) := by
  rw [vc_q (o := (1, 0, 2, 0, [])) (by decide +kernel)]; rfl
theorem v_11_1 (xs : Option (List Int32)) (n : Nat) (b : Bool) (d : Nat) (ml : List Value) (t : T) (Q : Option Value → T → Prop) (st : List Value) : vc xs zH_11 (n + 1) b d 11 1 ml st t Q = vc xs zH_11 n true d 11 2 ml (.int 2 :: st) t Q := by
  rw [vc_q (o := (0, 2, 0, 0, [])) (by decide +kernel)]; rfl
theorem v_11_2 (xs : Option (List Int32)) (n : Nat) (b : Bool) (d : Nat) (ml : List Value) (t : T) (Q : Option Value → T → Prop) (u v : Int32) (r : List Value) : vc xs zH_11 (n + 1) b d 11 2 ml (.int v :: .int u :: r) t Q = (if u < v then vc xs zH_11 n true d 11 24 ml r t Q else vc xs zH_11 n true d 11 5 ml r t Q) := by
  rw [vc_q (o := (20, 0, 24, 2, [])) (by decide +kernel)]; rfl
theorem v_11_5 (xs : Option (List Int32)) (n : Nat) (b : Bool) (d : Nat) (ml : List Value) (t : T) (Q : Option Value → T → Prop) (st : List Value) : vc xs zH_11 (n + 1) b d 11 5 ml st t Q = vgi ml 2 (fun v => vc xs zH_11 n true d 11 6 ml (.int v :: st) t Q) := by
  rw [vc_q (o := (1, 0, 2, 0, [])) (by decide +kernel)]; rfl
theorem v_11_6 (xs : Option (List Int32)) (n : Nat) (b : Bool) (d : Nat) (ml : List Value) (t : T) (Q : Option Value → T → Prop) (st : List Value) : vc xs zH_11 (n + 1) b d 11 6 ml st t Q = vc xs zH_11 n true d 11 8 ml (.int 8 :: st) t Q := by
  rw [vc_q (o := (0, 8, 1, 0, [])) (by decide +kernel)]; rfl
theorem v_11_8 (xs : Option (List Int32)) (n : Nat) (b : Bool) (d : Nat) (ml : List Value) (t : T) (Q : Option Value → T → Prop) (u v : Int32) (r : List Value) : vc xs zH_11 (n + 1) b d 11 8 ml (.int v :: .int u :: r) t Q = (if v < u then vc xs zH_11 n true d 11 24 ml r t Q else vc xs zH_11 n true d 11 11 ml r t Q) := by
  rw [vc_q (o := (20, 0, 24, 4, [])) (by decide +kernel)]; rfl
theorem v_11_11 (xs : Option (List Int32)) (n : Nat) (b : Bool) (d : Nat) (ml : List Value) (t : T) (Q : Option Value → T → Prop) (st : List Value) : vc xs zH_11 (n + 1) b d 11 11 ml st t Q = vgi ml 3 (fun v => vc xs zH_11 n true d 11 12 ml (.int v :: st) t Q) := by
  rw [vc_q (o := (1, 0, 3, 0, [])) (by decide +kernel)]; rfl
theorem v_11_12 (xs : Option (List Int32)) (n : Nat) (b : Bool) (d : Nat) (ml : List Value) (t : T) (Q : Option Value → T → Prop) (u : Int32) (r : List Value) : vc xs zH_11 (n + 1) b d 11 12 ml (.int u :: r) t Q = (if u = 0 then vc xs zH_11 n true d 11 20 ml r t Q else vc xs zH_11 n true d 11 15 ml r t Q) := by
  rw [vc_q (o := (21, 0, 20, 0, [])) (by decide +kernel)]; rfl
theorem v_11_15 (xs : Option (List Int32)) (n : Nat) (b : Bool) (d : Nat) (ml : List Value) (t : T) (Q : Option Value → T → Prop) (st : List Value) : vc xs zH_11 (n + 1) b d 11 15 ml st t Q = vgi ml 3 (fun v => vc xs zH_11 n true d 11 16 ml (.int v :: st) t Q) := by
  rw [vc_q (o := (1, 0, 3, 0, [])) (by decide +kernel)]; rfl
theorem v_11_16 (xs : Option (List Int32)) (n : Nat) (b : Bool) (d : Nat) (ml : List Value) (t : T) (Q : Option Value → T → Prop) (st : List Value) : vc xs zH_11 (n + 1) b d 11 16 ml st t Q = vc xs zH_11 n true d 11 17 ml (.int 1 :: st) t Q := by
  rw [vc_q (o := (0, 1, 0, 0, [])) (by decide +kernel)]; rfl
theorem v_11_17 (xs : Option (List Int32)) (n : Nat) (b : Bool) (d : Nat) (ml : List Value) (t : T) (Q : Option Value → T → Prop) (u v : Int32) (r : List Value) : vc xs zH_11 (n + 1) b d 11 17 ml (.int v :: .int u :: r) t Q = (if u = v then vc xs zH_11 n true d 11 20 ml r t Q else vc xs zH_11 n true d 11 24 ml r t Q) := by
  rw [vc_q (o := (20, 0, 24, 1, [])) (by decide +kernel)]; rfl
theorem v_11_20 (xs : Option (List Int32)) (n : Nat) (b : Bool) (d : Nat) (ml : List Value) (t : T) (Q : Option Value → T → Prop) (st : List Value) : vc xs zH_11 (n + 1) b d 11 20 ml st t Q = vc xs zH_11 n true d 11 21 ml (.int 1 :: st) t Q := by
  rw [vc_q (o := (0, 1, 0, 0, [])) (by decide +kernel)]; rfl
theorem v_11_21 (xs : Option (List Int32)) (n : Nat) (b : Bool) (d : Nat) (ml : List Value) (t : T) (Q : Option Value → T → Prop) (st : List Value) : vc xs zH_11 (n + 1) b d 11 21 ml st t Q = vc xs zH_11 n true d 11 25 ml st t Q := by
  rw [vc_q (o := (22, 0, 25, 0, [])) (by decide +kernel)]; rfl
theorem v_11_24 (xs : Option (List Int32)) (n : Nat) (b : Bool) (d : Nat) (ml : List Value) (t : T) (Q : Option Value → T → Prop) (st : List Value) : vc xs zH_11 (n + 1) b d 11 24 ml st t Q = vc xs zH_11 n true d 11 25 ml (.int 0 :: st) t Q := by
  rw [vc_q (o := (0, 0, 0, 0, [])) (by decide +kernel)]; rfl
theorem v_11_25 (xs : Option (List Int32)) (n : Nat) (b : Bool) (d : Nat) (ml : List Value) (t : T) (Q : Option Value → T → Prop) (v : Int32) (r : List Value) : vc xs zH_11 (n + 1) b d 11 25 ml (.int v :: r) t Q = vset ml 4 (.int v) (fun l => vc xs zH_11 n true d 11 27 l r t Q) := by
  rw [vc_q (o := (3, 0, 4, 1, [])) (by decide +kernel)]; rfl
theorem v_11_27 (xs : Option (List Int32)) (n : Nat) (b : Bool) (d : Nat) (ml : List Value) (t : T) (Q : Option Value → T → Prop) (st : List Value) : vc xs zH_11 (n + 1) b d 11 27 ml st t Q = vgi ml 4 (fun v => vc xs zH_11 n true d 11 29 ml (.int v :: st) t Q) := by
  rw [vc_q (o := (1, 0, 4, 1, [])) (by decide +kernel)]; rfl
theorem v_11_29 (xs : Option (List Int32)) (n : Nat) (b : Bool) (d : Nat) (ml : List Value) (t : T) (Q : Option Value → T → Prop) (u : Int32) (r : List Value) : vc xs zH_11 (n + 1) b d 11 29 ml (.int u :: r) t Q = (if u = 0 then vc xs zH_11 n true d 11 44 ml r t Q else vc xs zH_11 n true d 11 32 ml r t Q) := by
  rw [vc_q (o := (21, 0, 44, 0, [])) (by decide +kernel)]; rfl
theorem v_11_32 (xs : Option (List Int32)) (n : Nat) (b : Bool) (d : Nat) (ml : List Value) (t : T) (Q : Option Value → T → Prop) (st : List Value) : vc xs zH_11 (n + 1) b d 11 32 ml st t Q = vga ml 0 (fun v => vc xs zH_11 n true d 11 33 ml (.ref v :: st) t Q) := by
  rw [vc_q (o := (2, 0, 0, 0, [])) (by decide +kernel)]; rfl
theorem v_11_33 (xs : Option (List Int32)) (n : Nat) (b : Bool) (d : Nat) (ml : List Value) (t : T) (Q : Option Value → T → Prop) (u : Nat) (r : List Value) : vc xs zH_11 (n + 1) b d 11 33 ml (.ref u :: r) t Q = (vtag u = 0 ∧ vc xs zH_11 n true d 11 36 ml (.ref (tref t u 1) :: r) t Q) := by
  rw [vc_q (o := (25, 0, 0, 1, [])) (by decide +kernel)]; rfl
theorem v_11_36 (xs : Option (List Int32)) (n : Nat) (b : Bool) (d : Nat) (ml : List Value) (t : T) (Q : Option Value → T → Prop) (st : List Value) : vc xs zH_11 (n + 1) b d 11 36 ml st t Q = vgi ml 1 (fun v => vc xs zH_11 n true d 11 37 ml (.int v :: st) t Q) := by
  rw [vc_q (o := (1, 0, 1, 0, [])) (by decide +kernel)]; rfl
theorem v_11_37 (xs : Option (List Int32)) (n : Nat) (b : Bool) (d : Nat) (ml : List Value) (t : T) (Q : Option Value → T → Prop) (st : List Value) : vc xs zH_11 (n + 1) b d 11 37 ml st t Q = vc xs zH_11 n true d 11 38 ml (.int 3 :: st) t Q := by
  rw [vc_q (o := (0, 3, 0, 0, [])) (by decide +kernel)]; rfl
theorem v_11_38 (xs : Option (List Int32)) (n : Nat) (b : Bool) (d : Nat) (ml : List Value) (t : T) (Q : Option Value → T → Prop) (st : List Value) : vc xs zH_11 (n + 1) b d 11 38 ml st t Q = (st.all zc1 = true ∧ vtk 3 st [] (fun as rest => rest.length ≤ 8 ∧ vrc as 1 (twc d 134 as t (fun r t' => vc xs zH_11 n true d 11 41 ml (r.toList ++ rest) t' Q)))) := by
  rw [vc_q (o := (36, 0, 134, 2, [(0, 1)])) (by decide +kernel)]; rfl
theorem v_11_41 (xs : Option (List Int32)) (n : Nat) (b : Bool) (d : Nat) (ml : List Value) (t : T) (Q : Option Value → T → Prop) (u : Int32) (r : List Value) : vc xs zH_11 (n + 1) b d 11 41 ml (.int u :: r) t Q = (if u = 0 then vc xs zH_11 n true d 11 44 ml r t Q else vc xs zH_11 n true d 11 46 ml r t Q) := by
  rw [vc_q (o := (21, 0, 46, 1, [])) (by decide +kernel)]; rfl
theorem v_11_44 (xs : Option (List Int32)) (n : Nat) (b : Bool) (d : Nat) (ml : List Value) (t : T) (Q : Option Value → T → Prop) (st : List Value) : vc xs zH_11 (n + 1) b d 11 44 ml st t Q = vc xs zH_11 n true d 11 45 ml (.int (-1) :: st) t Q := by
  rw [vc_q (o := (0, (-1), 0, 0, [])) (by decide +kernel)]; rfl
theorem v_11_45 (xs : Option (List Int32)) (n : Nat) (b : Bool) (d : Nat) (ml : List Value) (t : T) (Q : Option Value → T → Prop) (v : Int32) : vc xs zH_11 (n + 1) b d 11 45 ml [.int v] t Q = Q (some (.int v)) t := by
  rw [vc_q (o := (40, 0, 0, 0, [])) (by decide +kernel)]; rfl
theorem v_11_46 (xs : Option (List Int32)) (n : Nat) (b : Bool) (d : Nat) (ml : List Value) (t : T) (Q : Option Value → T → Prop) (st : List Value) : vc xs zH_11 (n + 1) b d 11 46 ml st t Q = vga ml 0 (fun v => vc xs zH_11 n true d 11 47 ml (.ref v :: st) t Q) := by
  rw [vc_q (o := (2, 0, 0, 0, [])) (by decide +kernel)]; rfl
theorem v_11_47 (xs : Option (List Int32)) (n : Nat) (b : Bool) (d : Nat) (ml : List Value) (t : T) (Q : Option Value → T → Prop) (u : Nat) (r : List Value) : vc xs zH_11 (n + 1) b d 11 47 ml (.ref u :: r) t Q = (vtag u = 0 ∧ vc xs zH_11 n true d 11 50 ml (.ref (tref t u 3) :: r) t Q) := by
  rw [vc_q (o := (25, 0, 0, 3, [])) (by decide +kernel)]; rfl
theorem v_11_50 (xs : Option (List Int32)) (n : Nat) (b : Bool) (d : Nat) (ml : List Value) (t : T) (Q : Option Value → T → Prop) (u : Nat) (r : List Value) : vc xs zH_11 (n + 1) b d 11 50 ml (.ref u :: r) t Q = (vtag u = 5 ∧ vc xs zH_11 n true d 11 53 ml (.int (t.1 u 3) :: r) t Q) := by
  rw [vc_q (o := (24, 0, 5, 3, [])) (by decide +kernel)]; rfl
theorem v_11_53 (xs : Option (List Int32)) (n : Nat) (b : Bool) (d : Nat) (ml : List Value) (t : T) (Q : Option Value → T → Prop) (st : List Value) : vc xs zH_11 (n + 1) b d 11 53 ml st t Q = vc xs zH_11 n true d 11 55 ml (.int 6 :: st) t Q := by
  rw [vc_q (o := (0, 6, 1, 0, [])) (by decide +kernel)]; rfl
theorem v_11_55 (xs : Option (List Int32)) (n : Nat) (b : Bool) (d : Nat) (ml : List Value) (t : T) (Q : Option Value → T → Prop) (u v : Int32) (r : List Value) : vc xs zH_11 (n + 1) b d 11 55 ml (.int v :: .int u :: r) t Q = (if u = v then vc xs zH_11 n true d 11 58 ml r t Q else vc xs zH_11 n true d 11 63 ml r t Q) := by
  rw [vc_q (o := (20, 0, 63, 1, [])) (by decide +kernel)]; rfl
theorem v_11_58 (xs : Option (List Int32)) (n : Nat) (b : Bool) (d : Nat) (ml : List Value) (t : T) (Q : Option Value → T → Prop) (st : List Value) : vc xs zH_11 (n + 1) b d 11 58 ml st t Q = vc xs zH_11 n true d 11 60 ml (.int (-2) :: st) t Q := by
  rw [vc_q (o := (0, (-2), 1, 0, [])) (by decide +kernel)]; rfl
theorem v_11_60 (xs : Option (List Int32)) (n : Nat) (b : Bool) (d : Nat) (ml : List Value) (t : T) (Q : Option Value → T → Prop) (st : List Value) : vc xs zH_11 (n + 1) b d 11 60 ml st t Q = vc xs zH_11 n true d 11 73 ml st t Q := by
  rw [vc_q (o := (22, 0, 73, 0, [])) (by decide +kernel)]; rfl
theorem v_11_63 (xs : Option (List Int32)) (n : Nat) (b : Bool) (d : Nat) (ml : List Value) (t : T) (Q : Option Value → T → Prop) (st : List Value) : vc xs zH_11 (n + 1) b d 11 63 ml st t Q = vga ml 0 (fun v => vc xs zH_11 n true d 11 64 ml (.ref v :: st) t Q) := by
  rw [vc_q (o := (2, 0, 0, 0, [])) (by decide +kernel)]; rfl
theorem v_11_64 (xs : Option (List Int32)) (n : Nat) (b : Bool) (d : Nat) (ml : List Value) (t : T) (Q : Option Value → T → Prop) (u : Nat) (r : List Value) : vc xs zH_11 (n + 1) b d 11 64 ml (.ref u :: r) t Q = (vtag u = 0 ∧ vc xs zH_11 n true d 11 67 ml (.ref (tref t u 3) :: r) t Q) := by
  rw [vc_q (o := (25, 0, 0, 3, [])) (by decide +kernel)]; rfl
theorem v_11_67 (xs : Option (List Int32)) (n : Nat) (b : Bool) (d : Nat) (ml : List Value) (t : T) (Q : Option Value → T → Prop) (st : List Value) : vc xs zH_11 (n + 1) b d 11 67 ml st t Q = vgi ml 1 (fun v => vc xs zH_11 n true d 11 68 ml (.int v :: st) t Q) := by
  rw [vc_q (o := (1, 0, 1, 0, [])) (by decide +kernel)]; rfl
theorem v_11_68 (xs : Option (List Int32)) (n : Nat) (b : Bool) (d : Nat) (ml : List Value) (t : T) (Q : Option Value → T → Prop) (st : List Value) : vc xs zH_11 (n + 1) b d 11 68 ml st t Q = vgi ml 2 (fun v => vc xs zH_11 n true d 11 69 ml (.int v :: st) t Q) := by
  rw [vc_q (o := (1, 0, 2, 0, [])) (by decide +kernel)]; rfl
theorem v_11_69 (xs : Option (List Int32)) (n : Nat) (b : Bool) (d : Nat) (ml : List Value) (t : T) (Q : Option Value → T → Prop) (st : List Value) : vc xs zH_11 (n + 1) b d 11 69 ml st t Q = vgi ml 3 (fun v => vc xs zH_11 n true d 11 70 ml (.int v :: st) t Q) := by
  rw [vc_q (o := (1, 0, 3, 0, [])) (by decide +kernel)]; rfl
theorem v_11_70 (xs : Option (List Int32)) (n : Nat) (b : Bool) (d : Nat) (ml : List Value) (t : T) (Q : Option Value → T → Prop) (st : List Value) : vc xs zH_11 (n + 1) b d 11 70 ml st t Q = (st.all zc1 = true ∧ vtk 4 st [] (fun as rest => rest.length ≤ 8 ∧ vrc as 5 (twc d 155 as t (fun r t' => vc xs zH_11 n true d 11 73 ml (r.toList ++ rest) t' Q)))) := by
  rw [vc_q (o := (36, 0, 155, 3, [(0, 5)])) (by decide +kernel)]; rfl
theorem v_11_73 (xs : Option (List Int32)) (n : Nat) (b : Bool) (d : Nat) (ml : List Value) (t : T) (Q : Option Value → T → Prop) (v : Int32) : vc xs zH_11 (n + 1) b d 11 73 ml [.int v] t Q = Q (some (.int v)) t := by
  rw [vc_q (o := (40, 0, 0, 0, [])) (by decide +kernel)]; rfl
def zH_12 : List Nat := []
theorem v_12_0 (xs : Option (List Int32)) (n : Nat) (b : Bool) (d : Nat) (ml : List Value) (t : T) (Q : Option Value → T → Prop) (st : List Value) : vc xs zH_12 (n + 1) b d 12 0 ml st t Q = vgi ml 1 (fun v => vc xs zH_12 n true d 12 1 ml (.int v :: st) t Q) := by
  rw [vc_q (o := (1, 0, 1, 0, [])) (by decide +kernel)]; rfl
theorem v_12_1 (xs : Option (List Int32)) (n : Nat) (b : Bool) (d : Nat) (ml : List Value) (t : T) (Q : Option Value → T → Prop) (st : List Value) : vc xs zH_12 (n + 1) b d 12 1 ml st t Q = vc xs zH_12 n true d 12 2 ml (.int 4 :: st) t Q := by
  rw [vc_q (o := (0, 4, 0, 0, [])) (by decide +kernel)]; rfl
theorem v_12_2 (xs : Option (List Int32)) (n : Nat) (b : Bool) (d : Nat) (ml : List Value) (t : T) (Q : Option Value → T → Prop) (st : List Value) : vc xs zH_12 (n + 1) b d 12 2 ml st t Q = (st.all zc1 = true ∧ vtk 2 st [] (fun as rest => rest.length ≤ 8 ∧ twc d 22 as t (fun r t' => vc xs zH_12 n true d 12 5 ml (r.toList ++ rest) t' Q))) := by
  rw [vc_q (o := (37, 0, 22, 2, [])) (by decide +kernel)]; rfl
theorem v_12_5 (xs : Option (List Int32)) (n : Nat) (b : Bool) (d : Nat) (ml : List Value) (t : T) (Q : Option Value → T → Prop) (u : Int32) (r : List Value) : vc xs zH_12 (n + 1) b d 12 5 ml (.int u :: r) t Q = (if u = 0 then vc xs zH_12 n true d 12 8 ml r t Q else vc xs zH_12 n true d 12 10 ml r t Q) := by
  rw [vc_q (o := (21, 0, 10, 1, [])) (by decide +kernel)]; rfl
theorem v_12_8 (xs : Option (List Int32)) (n : Nat) (b : Bool) (d : Nat) (ml : List Value) (t : T) (Q : Option Value → T → Prop) (st : List Value) : vc xs zH_12 (n + 1) b d 12 8 ml st t Q = vc xs zH_12 n true d 12 9 ml (.int 0 :: st) t Q := by
  rw [vc_q (o := (0, 0, 0, 0, [])) (by decide +kernel)]; rfl
theorem v_12_9 (xs : Option (List Int32)) (n : Nat) (b : Bool) (d : Nat) (ml : List Value) (t : T) (Q : Option Value → T → Prop) (v : Int32) : vc xs zH_12 (n + 1) b d 12 9 ml [.int v] t Q = ((v = 0 ∨ v = 1) ∧ Q (some (.int v)) t) := by
  rw [vc_q (o := (41, 0, 0, 0, [])) (by decide +kernel)]; rfl
theorem v_12_10 (xs : Option (List Int32)) (n : Nat) (b : Bool) (d : Nat) (ml : List Value) (t : T) (Q : Option Value → T → Prop) (st : List Value) : vc xs zH_12 (n + 1) b d 12 10 ml st t Q = vga ml 0 (fun v => vc xs zH_12 n true d 12 11 ml (.ref v :: st) t Q) := by
  rw [vc_q (o := (2, 0, 0, 0, [])) (by decide +kernel)]; rfl
theorem v_12_11 (xs : Option (List Int32)) (n : Nat) (b : Bool) (d : Nat) (ml : List Value) (t : T) (Q : Option Value → T → Prop) (u : Nat) (r : List Value) : vc xs zH_12 (n + 1) b d 12 11 ml (.ref u :: r) t Q = (vtag u = 0 ∧ vc xs zH_12 n true d 12 14 ml (.ref (tref t u 11) :: r) t Q) := by
  rw [vc_q (o := (25, 0, 0, 11, [])) (by decide +kernel)]; rfl
theorem v_12_14 (xs : Option (List Int32)) (n : Nat) (b : Bool) (d : Nat) (ml : List Value) (t : T) (Q : Option Value → T → Prop) (st : List Value) : vc xs zH_12 (n + 1) b d 12 14 ml st t Q = vga ml 0 (fun v => vc xs zH_12 n true d 12 15 ml (.ref v :: st) t Q) := by
  rw [vc_q (o := (2, 0, 0, 0, [])) (by decide +kernel)]; rfl
theorem v_12_15 (xs : Option (List Int32)) (n : Nat) (b : Bool) (d : Nat) (ml : List Value) (t : T) (Q : Option Value → T → Prop) (u : Nat) (r : List Value) : vc xs zH_12 (n + 1) b d 12 15 ml (.ref u :: r) t Q = (vtag u = 0 ∧ vc xs zH_12 n true d 12 18 ml (.ref (tref t u 0) :: r) t Q) := by
  rw [vc_q (o := (25, 0, 0, 0, [])) (by decide +kernel)]; rfl
theorem v_12_18 (xs : Option (List Int32)) (n : Nat) (b : Bool) (d : Nat) (ml : List Value) (t : T) (Q : Option Value → T → Prop) (st : List Value) : vc xs zH_12 (n + 1) b d 12 18 ml st t Q = vgi ml 1 (fun v => vc xs zH_12 n true d 12 19 ml (.int v :: st) t Q) := by
  rw [vc_q (o := (1, 0, 1, 0, [])) (by decide +kernel)]; rfl
theorem v_12_19 (xs : Option (List Int32)) (n : Nat) (b : Bool) (d : Nat) (ml : List Value) (t : T) (Q : Option Value → T → Prop) (v : Int32) (u : Nat) (r : List Value) : vc xs zH_12 (n + 1) b d 12 19 ml (.int v :: .ref u :: r) t Q = (103 ≤ vtag u ∧ vtag u < 108 ∧ vinb v (vlen u) ∧ vc xs zH_12 n true d 12 20 ml (.ref (tref t u v.toNatClampNeg) :: r) t Q) := by
  rw [vc_q (o := (31, 0, 0, 0, [])) (by decide +kernel)]; rfl
theorem v_12_20 (xs : Option (List Int32)) (n : Nat) (b : Bool) (d : Nat) (ml : List Value) (t : T) (Q : Option Value → T → Prop) (st : List Value) : vc xs zH_12 (n + 1) b d 12 20 ml st t Q = (st.all zc1 = true ∧ vtk 2 st [] (fun as rest => rest.length ≤ 8 ∧ vrc as 4 (twc d 168 as t (fun r t' => vc xs zH_12 n true d 12 23 ml (r.toList ++ rest) t' Q)))) := by
  rw [vc_q (o := (36, 0, 168, 1, [(0, 4)])) (by decide +kernel)]; rfl
theorem v_12_23 (xs : Option (List Int32)) (n : Nat) (b : Bool) (d : Nat) (ml : List Value) (t : T) (Q : Option Value → T → Prop) (st : List Value) : vc xs zH_12 (n + 1) b d 12 23 ml st t Q = vga ml 0 (fun v => vc xs zH_12 n true d 12 24 ml (.ref v :: st) t Q) := by
  rw [vc_q (o := (2, 0, 0, 0, [])) (by decide +kernel)]; rfl
theorem v_12_24 (xs : Option (List Int32)) (n : Nat) (b : Bool) (d : Nat) (ml : List Value) (t : T) (Q : Option Value → T → Prop) (u : Nat) (r : List Value) : vc xs zH_12 (n + 1) b d 12 24 ml (.ref u :: r) t Q = (vtag u = 0 ∧ vc xs zH_12 n true d 12 27 ml (.ref (tref t u 3) :: r) t Q) := by
  rw [vc_q (o := (25, 0, 0, 3, [])) (by decide +kernel)]; rfl
theorem v_12_27 (xs : Option (List Int32)) (n : Nat) (b : Bool) (d : Nat) (ml : List Value) (t : T) (Q : Option Value → T → Prop) (st : List Value) : vc xs zH_12 (n + 1) b d 12 27 ml st t Q = vga ml 0 (fun v => vc xs zH_12 n true d 12 28 ml (.ref v :: st) t Q) := by
  rw [vc_q (o := (2, 0, 0, 0, [])) (by decide +kernel)]; rfl
theorem v_12_28 (xs : Option (List Int32)) (n : Nat) (b : Bool) (d : Nat) (ml : List Value) (t : T) (Q : Option Value → T → Prop) (u : Nat) (r : List Value) : vc xs zH_12 (n + 1) b d 12 28 ml (.ref u :: r) t Q = (vtag u = 0 ∧ vc xs zH_12 n true d 12 31 ml (.ref (tref t u 11) :: r) t Q) := by
  rw [vc_q (o := (25, 0, 0, 11, [])) (by decide +kernel)]; rfl
theorem v_12_31 (xs : Option (List Int32)) (n : Nat) (b : Bool) (d : Nat) (ml : List Value) (t : T) (Q : Option Value → T → Prop) (st : List Value) : vc xs zH_12 (n + 1) b d 12 31 ml st t Q = (st.all zc1 = true ∧ vtk 2 st [] (fun as rest => rest.length ≤ 8 ∧ vrc as 5 (twc d 156 as t (fun r t' => vc xs zH_12 n true d 12 34 ml (r.toList ++ rest) t' Q)))) := by
  rw [vc_q (o := (36, 0, 156, 1, [(0, 5)])) (by decide +kernel)]; rfl
theorem v_12_34 (xs : Option (List Int32)) (n : Nat) (b : Bool) (d : Nat) (ml : List Value) (t : T) (Q : Option Value → T → Prop) (u : Int32) (r : List Value) : vc xs zH_12 (n + 1) b d 12 34 ml (.int u :: r) t Q = (if u = 0 then vc xs zH_12 n true d 12 37 ml r t Q else vc xs zH_12 n true d 12 39 ml r t Q) := by
  rw [vc_q (o := (21, 0, 39, 1, [])) (by decide +kernel)]; rfl
theorem v_12_37 (xs : Option (List Int32)) (n : Nat) (b : Bool) (d : Nat) (ml : List Value) (t : T) (Q : Option Value → T → Prop) (st : List Value) : vc xs zH_12 (n + 1) b d 12 37 ml st t Q = vc xs zH_12 n true d 12 38 ml (.int 0 :: st) t Q := by
  rw [vc_q (o := (0, 0, 0, 0, [])) (by decide +kernel)]; rfl
theorem v_12_38 (xs : Option (List Int32)) (n : Nat) (b : Bool) (d : Nat) (ml : List Value) (t : T) (Q : Option Value → T → Prop) (v : Int32) : vc xs zH_12 (n + 1) b d 12 38 ml [.int v] t Q = ((v = 0 ∨ v = 1) ∧ Q (some (.int v)) t) := by
  rw [vc_q (o := (41, 0, 0, 0, [])) (by decide +kernel)]; rfl
theorem v_12_39 (xs : Option (List Int32)) (n : Nat) (b : Bool) (d : Nat) (ml : List Value) (t : T) (Q : Option Value → T → Prop) (st : List Value) : vc xs zH_12 (n + 1) b d 12 39 ml st t Q = vga ml 0 (fun v => vc xs zH_12 n true d 12 40 ml (.ref v :: st) t Q) := by
  rw [vc_q (o := (2, 0, 0, 0, [])) (by decide +kernel)]; rfl
theorem v_12_40 (xs : Option (List Int32)) (n : Nat) (b : Bool) (d : Nat) (ml : List Value) (t : T) (Q : Option Value → T → Prop) (u : Nat) (r : List Value) : vc xs zH_12 (n + 1) b d 12 40 ml (.ref u :: r) t Q = (vtag u = 0 ∧ vc xs zH_12 n true d 12 43 ml (.ref (tref t u 0) :: r) t Q) := by
  rw [vc_q (o := (25, 0, 0, 0, [])) (by decide +kernel)]; rfl
theorem v_12_43 (xs : Option (List Int32)) (n : Nat) (b : Bool) (d : Nat) (ml : List Value) (t : T) (Q : Option Value → T → Prop) (st : List Value) : vc xs zH_12 (n + 1) b d 12 43 ml st t Q = vgi ml 1 (fun v => vc xs zH_12 n true d 12 44 ml (.int v :: st) t Q) := by
  rw [vc_q (o := (1, 0, 1, 0, [])) (by decide +kernel)]; rfl
theorem v_12_44 (xs : Option (List Int32)) (n : Nat) (b : Bool) (d : Nat) (ml : List Value) (t : T) (Q : Option Value → T → Prop) (v : Int32) (u : Nat) (r : List Value) : vc xs zH_12 (n + 1) b d 12 44 ml (.int v :: .ref u :: r) t Q = (103 ≤ vtag u ∧ vtag u < 108 ∧ vinb v (vlen u) ∧ vc xs zH_12 n true d 12 45 ml (.ref (tref t u v.toNatClampNeg) :: r) t Q) := by
  rw [vc_q (o := (31, 0, 0, 0, [])) (by decide +kernel)]; rfl
theorem v_12_45 (xs : Option (List Int32)) (n : Nat) (b : Bool) (d : Nat) (ml : List Value) (t : T) (Q : Option Value → T → Prop) (st : List Value) : vc xs zH_12 (n + 1) b d 12 45 ml st t Q = vga ml 0 (fun v => vc xs zH_12 n true d 12 46 ml (.ref v :: st) t Q) := by
  rw [vc_q (o := (2, 0, 0, 0, [])) (by decide +kernel)]; rfl
theorem v_12_46 (xs : Option (List Int32)) (n : Nat) (b : Bool) (d : Nat) (ml : List Value) (t : T) (Q : Option Value → T → Prop) (u : Nat) (r : List Value) : vc xs zH_12 (n + 1) b d 12 46 ml (.ref u :: r) t Q = (vtag u = 0 ∧ vc xs zH_12 n true d 12 49 ml (.ref (tref t u 11) :: r) t Q) := by
  rw [vc_q (o := (25, 0, 0, 11, [])) (by decide +kernel)]; rfl
theorem v_12_49 (xs : Option (List Int32)) (n : Nat) (b : Bool) (d : Nat) (ml : List Value) (t : T) (Q : Option Value → T → Prop) (st : List Value) : vc xs zH_12 (n + 1) b d 12 49 ml st t Q = (st.all zc1 = true ∧ vtk 2 st [] (fun as rest => rest.length ≤ 8 ∧ vrc as 4 (twc d 168 as t (fun r t' => vc xs zH_12 n true d 12 52 ml (r.toList ++ rest) t' Q)))) := by
  rw [vc_q (o := (36, 0, 168, 1, [(0, 4)])) (by decide +kernel)]; rfl
theorem v_12_52 (xs : Option (List Int32)) (n : Nat) (b : Bool) (d : Nat) (ml : List Value) (t : T) (Q : Option Value → T → Prop) (st : List Value) : vc xs zH_12 (n + 1) b d 12 52 ml st t Q = vc xs zH_12 n true d 12 53 ml (.int 1 :: st) t Q := by
  rw [vc_q (o := (0, 1, 0, 0, [])) (by decide +kernel)]; rfl
theorem v_12_53 (xs : Option (List Int32)) (n : Nat) (b : Bool) (d : Nat) (ml : List Value) (t : T) (Q : Option Value → T → Prop) (v : Int32) : vc xs zH_12 (n + 1) b d 12 53 ml [.int v] t Q = ((v = 0 ∨ v = 1) ∧ Q (some (.int v)) t) := by
  rw [vc_q (o := (41, 0, 0, 0, [])) (by decide +kernel)]; rfl
def zH_13 : List Nat := []
theorem v_13_0 (xs : Option (List Int32)) (n : Nat) (b : Bool) (d : Nat) (ml : List Value) (t : T) (Q : Option Value → T → Prop) (st : List Value) : vc xs zH_13 (n + 1) b d 13 0 ml st t Q = vgi ml 1 (fun v => vc xs zH_13 n true d 13 1 ml (.int v :: st) t Q) := by
  rw [vc_q (o := (1, 0, 1, 0, [])) (by decide +kernel)]; rfl
theorem v_13_1 (xs : Option (List Int32)) (n : Nat) (b : Bool) (d : Nat) (ml : List Value) (t : T) (Q : Option Value → T → Prop) (st : List Value) : vc xs zH_13 (n + 1) b d 13 1 ml st t Q = vc xs zH_13 n true d 13 2 ml (.int 4 :: st) t Q := by
  rw [vc_q (o := (0, 4, 0, 0, [])) (by decide +kernel)]; rfl
theorem v_13_2 (xs : Option (List Int32)) (n : Nat) (b : Bool) (d : Nat) (ml : List Value) (t : T) (Q : Option Value → T → Prop) (st : List Value) : vc xs zH_13 (n + 1) b d 13 2 ml st t Q = (st.all zc1 = true ∧ vtk 2 st [] (fun as rest => rest.length ≤ 8 ∧ twc d 22 as t (fun r t' => vc xs zH_13 n true d 13 5 ml (r.toList ++ rest) t' Q))) := by
  rw [vc_q (o := (37, 0, 22, 2, [])) (by decide +kernel)]; rfl
theorem v_13_5 (xs : Option (List Int32)) (n : Nat) (b : Bool) (d : Nat) (ml : List Value) (t : T) (Q : Option Value → T → Prop) (u : Int32) (r : List Value) : vc xs zH_13 (n + 1) b d 13 5 ml (.int u :: r) t Q = (if u = 0 then vc xs zH_13 n true d 13 23 ml r t Q else vc xs zH_13 n true d 13 8 ml r t Q) := by
  rw [vc_q (o := (21, 0, 23, 0, [])) (by decide +kernel)]; rfl
theorem v_13_8 (xs : Option (List Int32)) (n : Nat) (b : Bool) (d : Nat) (ml : List Value) (t : T) (Q : Option Value → T → Prop) (st : List Value) : vc xs zH_13 (n + 1) b d 13 8 ml st t Q = vgi ml 2 (fun v => vc xs zH_13 n true d 13 9 ml (.int v :: st) t Q) := by
  rw [vc_q (o := (1, 0, 2, 0, [])) (by decide +kernel)]; rfl
theorem v_13_9 (xs : Option (List Int32)) (n : Nat) (b : Bool) (d : Nat) (ml : List Value) (t : T) (Q : Option Value → T → Prop) (st : List Value) : vc xs zH_13 (n + 1) b d 13 9 ml st t Q = vc xs zH_13 n true d 13 10 ml (.int 4 :: st) t Q := by
  rw [vc_q (o := (0, 4, 0, 0, [])) (by decide +kernel)]; rfl
theorem v_13_10 (xs : Option (List Int32)) (n : Nat) (b : Bool) (d : Nat) (ml : List Value) (t : T) (Q : Option Value → T → Prop) (st : List Value) : vc xs zH_13 (n + 1) b d 13 10 ml st t Q = (st.all zc1 = true ∧ vtk 2 st [] (fun as rest => rest.length ≤ 8 ∧ twc d 22 as t (fun r t' => vc xs zH_13 n true d 13 13 ml (r.toList ++ rest) t' Q))) := by
  rw [vc_q (o := (37, 0, 22, 2, [])) (by decide +kernel)]; rfl
theorem v_13_13 (xs : Option (List Int32)) (n : Nat) (b : Bool) (d : Nat) (ml : List Value) (t : T) (Q : Option Value → T → Prop) (u : Int32) (r : List Value) : vc xs zH_13 (n + 1) b d 13 13 ml (.int u :: r) t Q = (if u = 0 then vc xs zH_13 n true d 13 23 ml r t Q else vc xs zH_13 n true d 13 16 ml r t Q) := by
  rw [vc_q (o := (21, 0, 23, 0, [])) (by decide +kernel)]; rfl
theorem v_13_16 (xs : Option (List Int32)) (n : Nat) (b : Bool) (d : Nat) (ml : List Value) (t : T) (Q : Option Value → T → Prop) (st : List Value) : vc xs zH_13 (n + 1) b d 13 16 ml st t Q = vgi ml 3 (fun v => vc xs zH_13 n true d 13 17 ml (.int v :: st) t Q) := by
  rw [vc_q (o := (1, 0, 3, 0, [])) (by decide +kernel)]; rfl
theorem v_13_17 (xs : Option (List Int32)) (n : Nat) (b : Bool) (d : Nat) (ml : List Value) (t : T) (Q : Option Value → T → Prop) (st : List Value) : vc xs zH_13 (n + 1) b d 13 17 ml st t Q = (st.all zc1 = true ∧ vtk 1 st [] (fun as rest => rest.length ≤ 8 ∧ twc d 112 as t (fun r t' => vc xs zH_13 n true d 13 20 ml (r.toList ++ rest) t' Q))) := by
  rw [vc_q (o := (37, 0, 112, 1, [])) (by decide +kernel)]; rfl
theorem v_13_20 (xs : Option (List Int32)) (n : Nat) (b : Bool) (d : Nat) (ml : List Value) (t : T) (Q : Option Value → T → Prop) (u : Int32) (r : List Value) : vc xs zH_13 (n + 1) b d 13 20 ml (.int u :: r) t Q = (if u = 0 then vc xs zH_13 n true d 13 23 ml r t Q else vc xs zH_13 n true d 13 25 ml r t Q) := by
  rw [vc_q (o := (21, 0, 25, 1, [])) (by decide +kernel)]; rfl
theorem v_13_23 (xs : Option (List Int32)) (n : Nat) (b : Bool) (d : Nat) (ml : List Value) (t : T) (Q : Option Value → T → Prop) (st : List Value) : vc xs zH_13 (n + 1) b d 13 23 ml st t Q = vc xs zH_13 n true d 13 24 ml (.int (-1) :: st) t Q := by
  rw [vc_q (o := (0, (-1), 0, 0, [])) (by decide +kernel)]; rfl
theorem v_13_24 (xs : Option (List Int32)) (n : Nat) (b : Bool) (d : Nat) (ml : List Value) (t : T) (Q : Option Value → T → Prop) (v : Int32) : vc xs zH_13 (n + 1) b d 13 24 ml [.int v] t Q = Q (some (.int v)) t := by
  rw [vc_q (o := (40, 0, 0, 0, [])) (by decide +kernel)]; rfl
theorem v_13_25 (xs : Option (List Int32)) (n : Nat) (b : Bool) (d : Nat) (ml : List Value) (t : T) (Q : Option Value → T → Prop) (st : List Value) : vc xs zH_13 (n + 1) b d 13 25 ml st t Q = vga ml 0 (fun v => vc xs zH_13 n true d 13 26 ml (.ref v :: st) t Q) := by
  rw [vc_q (o := (2, 0, 0, 0, [])) (by decide +kernel)]; rfl
theorem v_13_26 (xs : Option (List Int32)) (n : Nat) (b : Bool) (d : Nat) (ml : List Value) (t : T) (Q : Option Value → T → Prop) (u : Nat) (r : List Value) : vc xs zH_13 (n + 1) b d 13 26 ml (.ref u :: r) t Q = (vtag u = 0 ∧ vc xs zH_13 n true d 13 29 ml (.ref (tref t u 1) :: r) t Q) := by
  rw [vc_q (o := (25, 0, 0, 1, [])) (by decide +kernel)]; rfl
theorem v_13_29 (xs : Option (List Int32)) (n : Nat) (b : Bool) (d : Nat) (ml : List Value) (t : T) (Q : Option Value → T → Prop) (st : List Value) : vc xs zH_13 (n + 1) b d 13 29 ml st t Q = vgi ml 4 (fun v => vc xs zH_13 n true d 13 31 ml (.int v :: st) t Q) := by
  rw [vc_q (o := (1, 0, 4, 1, [])) (by decide +kernel)]; rfl
theorem v_13_31 (xs : Option (List Int32)) (n : Nat) (b : Bool) (d : Nat) (ml : List Value) (t : T) (Q : Option Value → T → Prop) (st : List Value) : vc xs zH_13 (n + 1) b d 13 31 ml st t Q = vc xs zH_13 n true d 13 32 ml (.int 0 :: st) t Q := by
  rw [vc_q (o := (0, 0, 0, 0, [])) (by decide +kernel)]; rfl
theorem v_13_32 (xs : Option (List Int32)) (n : Nat) (b : Bool) (d : Nat) (ml : List Value) (t : T) (Q : Option Value → T → Prop) (st : List Value) : vc xs zH_13 (n + 1) b d 13 32 ml st t Q = (st.all zc1 = true ∧ vtk 3 st [] (fun as rest => rest.length ≤ 8 ∧ vrc as 1 (twc d 134 as t (fun r t' => vc xs zH_13 n true d 13 35 ml (r.toList ++ rest) t' Q)))) := by
  rw [vc_q (o := (36, 0, 134, 2, [(0, 1)])) (by decide +kernel)]; rfl
theorem v_13_35 (xs : Option (List Int32)) (n : Nat) (b : Bool) (d : Nat) (ml : List Value) (t : T) (Q : Option Value → T → Prop) (u : Int32) (r : List Value) : vc xs zH_13 (n + 1) b d 13 35 ml (.int u :: r) t Q = (if u = 0 then vc xs zH_13 n true d 13 38 ml r t Q else vc xs zH_13 n true d 13 40 ml r t Q) := by
  rw [vc_q (o := (21, 0, 40, 1, [])) (by decide +kernel)]; rfl
theorem v_13_38 (xs : Option (List Int32)) (n : Nat) (b : Bool) (d : Nat) (ml : List Value) (t : T) (Q : Option Value → T → Prop) (st : List Value) : vc xs zH_13 (n + 1) b d 13 38 ml st t Q = vc xs zH_13 n true d 13 39 ml (.int (-1) :: st) t Q := by
  rw [vc_q (o := (0, (-1), 0, 0, [])) (by decide +kernel)]; rfl
theorem v_13_39 (xs : Option (List Int32)) (n : Nat) (b : Bool) (d : Nat) (ml : List Value) (t : T) (Q : Option Value → T → Prop) (v : Int32) : vc xs zH_13 (n + 1) b d 13 39 ml [.int v] t Q = Q (some (.int v)) t := by
  rw [vc_q (o := (40, 0, 0, 0, [])) (by decide +kernel)]; rfl
theorem v_13_40 (xs : Option (List Int32)) (n : Nat) (b : Bool) (d : Nat) (ml : List Value) (t : T) (Q : Option Value → T → Prop) (st : List Value) : vc xs zH_13 (n + 1) b d 13 40 ml st t Q = vga ml 0 (fun v => vc xs zH_13 n true d 13 41 ml (.ref v :: st) t Q) := by
  rw [vc_q (o := (2, 0, 0, 0, [])) (by decide +kernel)]; rfl
theorem v_13_41 (xs : Option (List Int32)) (n : Nat) (b : Bool) (d : Nat) (ml : List Value) (t : T) (Q : Option Value → T → Prop) (u : Nat) (r : List Value) : vc xs zH_13 (n + 1) b d 13 41 ml (.ref u :: r) t Q = (vtag u = 0 ∧ vc xs zH_13 n true d 13 44 ml (.int (t.1 u 13) :: r) t Q) := by
  rw [vc_q (o := (24, 0, 0, 13, [])) (by decide +kernel)]; rfl
theorem v_13_44 (xs : Option (List Int32)) (n : Nat) (b : Bool) (d : Nat) (ml : List Value) (t : T) (Q : Option Value → T → Prop) (st : List Value) : vc xs zH_13 (n + 1) b d 13 44 ml st t Q = vc xs zH_13 n true d 13 46 ml (.int 8 :: st) t Q := by
  rw [vc_q (o := (0, 8, 1, 0, [])) (by decide +kernel)]; rfl
theorem v_13_46 (xs : Option (List Int32)) (n : Nat) (b : Bool) (d : Nat) (ml : List Value) (t : T) (Q : Option Value → T → Prop) (u v : Int32) (r : List Value) : vc xs zH_13 (n + 1) b d 13 46 ml (.int v :: .int u :: r) t Q = (if u = v then vc xs zH_13 n true d 13 49 ml r t Q else vc xs zH_13 n true d 13 52 ml r t Q) := by
  rw [vc_q (o := (20, 0, 52, 1, [])) (by decide +kernel)]; rfl
theorem v_13_49 (xs : Option (List Int32)) (n : Nat) (b : Bool) (d : Nat) (ml : List Value) (t : T) (Q : Option Value → T → Prop) (st : List Value) : vc xs zH_13 (n + 1) b d 13 49 ml st t Q = vc xs zH_13 n true d 13 51 ml (.int (-2) :: st) t Q := by
  rw [vc_q (o := (0, (-2), 1, 0, [])) (by decide +kernel)]; rfl
theorem v_13_51 (xs : Option (List Int32)) (n : Nat) (b : Bool) (d : Nat) (ml : List Value) (t : T) (Q : Option Value → T → Prop) (v : Int32) : vc xs zH_13 (n + 1) b d 13 51 ml [.int v] t Q = Q (some (.int v)) t := by
  rw [vc_q (o := (40, 0, 0, 0, [])) (by decide +kernel)]; rfl
theorem v_13_52 (xs : Option (List Int32)) (n : Nat) (b : Bool) (d : Nat) (ml : List Value) (t : T) (Q : Option Value → T → Prop) (st : List Value) : vc xs zH_13 (n + 1) b d 13 52 ml st t Q = vga ml 0 (fun v => vc xs zH_13 n true d 13 53 ml (.ref v :: st) t Q) := by
  rw [vc_q (o := (2, 0, 0, 0, [])) (by decide +kernel)]; rfl
theorem v_13_53 (xs : Option (List Int32)) (n : Nat) (b : Bool) (d : Nat) (ml : List Value) (t : T) (Q : Option Value → T → Prop) (u : Nat) (r : List Value) : vc xs zH_13 (n + 1) b d 13 53 ml (.ref u :: r) t Q = (vtag u = 0 ∧ vc xs zH_13 n true d 13 56 ml (.ref (tref t u 4) :: r) t Q) := by
  rw [vc_q (o := (25, 0, 0, 4, [])) (by decide +kernel)]; rfl
theorem v_13_56 (xs : Option (List Int32)) (n : Nat) (b : Bool) (d : Nat) (ml : List Value) (t : T) (Q : Option Value → T → Prop) (st : List Value) : vc xs zH_13 (n + 1) b d 13 56 ml st t Q = vga ml 0 (fun v => vc xs zH_13 n true d 13 57 ml (.ref v :: st) t Q) := by
  rw [vc_q (o := (2, 0, 0, 0, [])) (by decide +kernel)]; rfl
theorem v_13_57 (xs : Option (List Int32)) (n : Nat) (b : Bool) (d : Nat) (ml : List Value) (t : T) (Q : Option Value → T → Prop) (u : Nat) (r : List Value) : vc xs zH_13 (n + 1) b d 13 57 ml (.ref u :: r) t Q = (vtag u = 0 ∧ vc xs zH_13 n true d 13 60 ml (.int (t.1 u 13) :: r) t Q) := by
  rw [vc_q (o := (24, 0, 0, 13, [])) (by decide +kernel)]; rfl
theorem v_13_60 (xs : Option (List Int32)) (n : Nat) (b : Bool) (d : Nat) (ml : List Value) (t : T) (Q : Option Value → T → Prop) (v : Int32) (u : Nat) (r : List Value) : vc xs zH_13 (n + 1) b d 13 60 ml (.int v :: .ref u :: r) t Q = (103 ≤ vtag u ∧ vtag u < 108 ∧ vinb v (vlen u) ∧ vc xs zH_13 n true d 13 61 ml (.ref (tref t u v.toNatClampNeg) :: r) t Q) := by
  rw [vc_q (o := (31, 0, 0, 0, [])) (by decide +kernel)]; rfl
theorem v_13_61 (xs : Option (List Int32)) (n : Nat) (b : Bool) (d : Nat) (ml : List Value) (t : T) (Q : Option Value → T → Prop) (st : List Value) : vc xs zH_13 (n + 1) b d 13 61 ml st t Q = vgi ml 1 (fun v => vc xs zH_13 n true d 13 62 ml (.int v :: st) t Q) := by
  rw [vc_q (o := (1, 0, 1, 0, [])) (by decide +kernel)]; rfl
theorem v_13_62 (xs : Option (List Int32)) (n : Nat) (b : Bool) (d : Nat) (ml : List Value) (t : T) (Q : Option Value → T → Prop) (st : List Value) : vc xs zH_13 (n + 1) b d 13 62 ml st t Q = vgi ml 2 (fun v => vc xs zH_13 n true d 13 63 ml (.int v :: st) t Q) := by
  rw [vc_q (o := (1, 0, 2, 0, [])) (by decide +kernel)]; rfl
theorem v_13_63 (xs : Option (List Int32)) (n : Nat) (b : Bool) (d : Nat) (ml : List Value) (t : T) (Q : Option Value → T → Prop) (st : List Value) : vc xs zH_13 (n + 1) b d 13 63 ml st t Q = vgi ml 3 (fun v => vc xs zH_13 n true d 13 64 ml (.int v :: st) t Q) := by
  rw [vc_q (o := (1, 0, 3, 0, [])) (by decide +kernel)]; rfl
theorem v_13_64 (xs : Option (List Int32)) (n : Nat) (b : Bool) (d : Nat) (ml : List Value) (t : T) (Q : Option Value → T → Prop) (st : List Value) : vc xs zH_13 (n + 1) b d 13 64 ml st t Q = vgi ml 4 (fun v => vc xs zH_13 n true d 13 66 ml (.int v :: st) t Q) := by
  rw [vc_q (o := (1, 0, 4, 1, [])) (by decide +kernel)]; rfl
theorem v_13_66 (xs : Option (List Int32)) (n : Nat) (b : Bool) (d : Nat) (ml : List Value) (t : T) (Q : Option Value → T → Prop) (st : List Value) : vc xs zH_13 (n + 1) b d 13 66 ml st t Q = (st.all zc1 = true ∧ vtk 5 st [] (fun as rest => rest.length ≤ 8 ∧ vrc as 11 (twc d 113 as t (fun r t' => vc xs zH_13 n true d 13 69 ml (r.toList ++ rest) t' Q)))) := by
  rw [vc_q (o := (36, 0, 113, 4, [(0, 11)])) (by decide +kernel)]; rfl
theorem v_13_69 (xs : Option (List Int32)) (n : Nat) (b : Bool) (d : Nat) (ml : List Value) (t : T) (Q : Option Value → T → Prop) (st : List Value) : vc xs zH_13 (n + 1) b d 13 69 ml st t Q = vga ml 0 (fun v => vc xs zH_13 n true d 13 70 ml (.ref v :: st) t Q) := by
  rw [vc_q (o := (2, 0, 0, 0, [])) (by decide +kernel)]; rfl
theorem v_13_70_int (xs : Option (List Int32)) (n : Nat) (b : Bool) (d : Nat) (ml : List Value) (t : T) (Q : Option Value → T → Prop) (v : Int32) (r : List Value) : vc xs zH_13 (n + 1) b d 13 70 ml (.int v :: r) t Q = vc xs zH_13 n true d 13 71 ml (.int v :: .int v :: r) t Q := by
  rw [vc_q (o := (17, 0, 0, 0, [])) (by decide +kernel)]; rfl
theorem v_13_70_ref (xs : Option (List Int32)) (n : Nat) (b : Bool) (d : Nat) (ml : List Value) (t : T) (Q : Option Value → T → Prop) (v : Nat) (r : List Value) : vc xs zH_13 (n + 1) b d 13 70 ml (.ref v :: r) t Q = vc xs zH_13 n true d 13 71 ml (.ref v :: .ref v :: r) t Q := by
  rw [vc_q (o := (17, 0, 0, 0, [])) (by decide +kernel)]; rfl
theorem v_13_71 (xs : Option (List Int32)) (n : Nat) (b : Bool) (d : Nat) (ml : List Value) (t : T) (Q : Option Value → T → Prop) (u : Nat) (r : List Value) : vc xs zH_13 (n + 1) b d 13 71 ml (.ref u :: r) t Q = (vtag u = 0 ∧ vc xs zH_13 n true d 13 74 ml (.int (t.1 u 13) :: r) t Q) := by
  rw [vc_q (o := (24, 0, 0, 13, [])) (by decide +kernel)]; rfl
theorem v_13_74 (xs : Option (List Int32)) (n : Nat) (b : Bool) (d : Nat) (ml : List Value) (t : T) (Q : Option Value → T → Prop) (st : List Value) : vc xs zH_13 (n + 1) b d 13 74 ml st t Q = vc xs zH_13 n true d 13 75 ml (.int 1 :: st) t Q := by
  rw [vc_q (o := (0, 1, 0, 0, [])) (by decide +kernel)]; rfl
theorem v_13_75 (xs : Option (List Int32)) (n : Nat) (b : Bool) (d : Nat) (ml : List Value) (t : T) (Q : Option Value → T → Prop) (u v : Int32) (r : List Value) : vc xs zH_13 (n + 1) b d 13 75 ml (.int v :: .int u :: r) t Q = vc xs zH_13 n true d 13 76 ml (.int (u + v) :: r) t Q := by
  rw [vc_q (o := (6, 0, 0, 0, [])) (by decide +kernel)]; rfl
theorem v_13_76 (xs : Option (List Int32)) (n : Nat) (b : Bool) (d : Nat) (ml : List Value) (t : T) (Q : Option Value → T → Prop) (v : Int32) (u : Nat) (r : List Value) : vc xs zH_13 (n + 1) b d 13 76 ml (.int v :: .ref u :: r) t Q = (vtag u = 0 ∧ vc xs zH_13 n true d 13 79 ml r (tsi t u 13 v) Q) := by
  rw [vc_q (o := (26, 0, 0, 13, [])) (by decide +kernel)]; rfl
theorem v_13_79 (xs : Option (List Int32)) (n : Nat) (b : Bool) (d : Nat) (ml : List Value) (t : T) (Q : Option Value → T → Prop) (st : List Value) : vc xs zH_13 (n + 1) b d 13 79 ml st t Q = vga ml 0 (fun v => vc xs zH_13 n true d 13 80 ml (.ref v :: st) t Q) := by
  rw [vc_q (o := (2, 0, 0, 0, [])) (by decide +kernel)]; rfl
theorem v_13_80 (xs : Option (List Int32)) (n : Nat) (b : Bool) (d : Nat) (ml : List Value) (t : T) (Q : Option Value → T → Prop) (u : Nat) (r : List Value) : vc xs zH_13 (n + 1) b d 13 80 ml (.ref u :: r) t Q = (vtag u = 0 ∧ vc xs zH_13 n true d 13 83 ml (.int (t.1 u 13) :: r) t Q) := by
  rw [vc_q (o := (24, 0, 0, 13, [])) (by decide +kernel)]; rfl
theorem v_13_83 (xs : Option (List Int32)) (n : Nat) (b : Bool) (d : Nat) (ml : List Value) (t : T) (Q : Option Value → T → Prop) (st : List Value) : vc xs zH_13 (n + 1) b d 13 83 ml st t Q = vc xs zH_13 n true d 13 84 ml (.int 1 :: st) t Q := by
  rw [vc_q (o := (0, 1, 0, 0, [])) (by decide +kernel)]; rfl
theorem v_13_84 (xs : Option (List Int32)) (n : Nat) (b : Bool) (d : Nat) (ml : List Value) (t : T) (Q : Option Value → T → Prop) (u v : Int32) (r : List Value) : vc xs zH_13 (n + 1) b d 13 84 ml (.int v :: .int u :: r) t Q = vc xs zH_13 n true d 13 85 ml (.int (u - v) :: r) t Q := by
  rw [vc_q (o := (7, 0, 0, 0, [])) (by decide +kernel)]; rfl
theorem v_13_85 (xs : Option (List Int32)) (n : Nat) (b : Bool) (d : Nat) (ml : List Value) (t : T) (Q : Option Value → T → Prop) (v : Int32) : vc xs zH_13 (n + 1) b d 13 85 ml [.int v] t Q = Q (some (.int v)) t := by
  rw [vc_q (o := (40, 0, 0, 0, [])) (by decide +kernel)]; rfl
def zH_14 : List Nat := []
theorem v_14_0 (xs : Option (List Int32)) (n : Nat) (b : Bool) (d : Nat) (ml : List Value) (t : T) (Q : Option Value → T → Prop) (st : List Value) : vc xs zH_14 (n + 1) b d 14 0 ml st t Q = vgi ml 1 (fun v => vc xs zH_14 n true d 14 1 ml (.int v :: st) t Q) := by
  rw [vc_q (o := (1, 0, 1, 0, [])) (by decide +kernel)]; rfl
theorem v_14_1 (xs : Option (List Int32)) (n : Nat) (b : Bool) (d : Nat) (ml : List Value) (t : T) (Q : Option Value → T → Prop) (st : List Value) : vc xs zH_14 (n + 1) b d 14 1 ml st t Q = vga ml 0 (fun v => vc xs zH_14 n true d 14 2 ml (.ref v :: st) t Q) := by
  rw [vc_q (o := (2, 0, 0, 0, [])) (by decide +kernel)]; rfl
theorem v_14_2 (xs : Option (List Int32)) (n : Nat) (b : Bool) (d : Nat) (ml : List Value) (t : T) (Q : Option Value → T → Prop) (u : Nat) (r : List Value) : vc xs zH_14 (n + 1) b d 14 2 ml (.ref u :: r) t Q = (vtag u = 0 ∧ vc xs zH_14 n true d 14 5 ml (.int (t.1 u 13) :: r) t Q) := by
  rw [vc_q (o := (24, 0, 0, 13, [])) (by decide +kernel)]; rfl
theorem v_14_5 (xs : Option (List Int32)) (n : Nat) (b : Bool) (d : Nat) (ml : List Value) (t : T) (Q : Option Value → T → Prop) (st : List Value) : vc xs zH_14 (n + 1) b d 14 5 ml st t Q = (st.all zc1 = true ∧ vtk 2 st [] (fun as rest => rest.length ≤ 8 ∧ twc d 22 as t (fun r t' => vc xs zH_14 n true d 14 8 ml (r.toList ++ rest) t' Q))) := by
  rw [vc_q (o := (37, 0, 22, 2, [])) (by decide +kernel)]; rfl
theorem v_14_8 (xs : Option (List Int32)) (n : Nat) (b : Bool) (d : Nat) (ml : List Value) (t : T) (Q : Option Value → T → Prop) (u : Int32) (r : List Value) : vc xs zH_14 (n + 1) b d 14 8 ml (.int u :: r) t Q = (if u = 0 then vc xs zH_14 n true d 14 35 ml r t Q else vc xs zH_14 n true d 14 11 ml r t Q) := by
  rw [vc_q (o := (21, 0, 35, 0, [])) (by decide +kernel)]; rfl
theorem v_14_11 (xs : Option (List Int32)) (n : Nat) (b : Bool) (d : Nat) (ml : List Value) (t : T) (Q : Option Value → T → Prop) (st : List Value) : vc xs zH_14 (n + 1) b d 14 11 ml st t Q = vgi ml 2 (fun v => vc xs zH_14 n true d 14 12 ml (.int v :: st) t Q) := by
  rw [vc_q (o := (1, 0, 2, 0, [])) (by decide +kernel)]; rfl
theorem v_14_12 (xs : Option (List Int32)) (n : Nat) (b : Bool) (d : Nat) (ml : List Value) (t : T) (Q : Option Value → T → Prop) (st : List Value) : vc xs zH_14 (n + 1) b d 14 12 ml st t Q = vc xs zH_14 n true d 14 14 ml (.int 8 :: st) t Q := by
  rw [vc_q (o := (0, 8, 1, 0, [])) (by decide +kernel)]; rfl
theorem v_14_14 (xs : Option (List Int32)) (n : Nat) (b : Bool) (d : Nat) (ml : List Value) (t : T) (Q : Option Value → T → Prop) (st : List Value) : vc xs zH_14 (n + 1) b d 14 14 ml st t Q = (st.all zc1 = true ∧ vtk 2 st [] (fun as rest => rest.length ≤ 8 ∧ twc d 22 as t (fun r t' => vc xs zH_14 n true d 14 17 ml (r.toList ++ rest) t' Q))) := by
  rw [vc_q (o := (37, 0, 22, 2, [])) (by decide +kernel)]; rfl
theorem v_14_17 (xs : Option (List Int32)) (n : Nat) (b : Bool) (d : Nat) (ml : List Value) (t : T) (Q : Option Value → T → Prop) (u : Int32) (r : List Value) : vc xs zH_14 (n + 1) b d 14 17 ml (.int u :: r) t Q = (if u = 0 then vc xs zH_14 n true d 14 35 ml r t Q else vc xs zH_14 n true d 14 20 ml r t Q) := by
  rw [vc_q (o := (21, 0, 35, 0, [])) (by decide +kernel)]; rfl
theorem v_14_20 (xs : Option (List Int32)) (n : Nat) (b : Bool) (d : Nat) (ml : List Value) (t : T) (Q : Option Value → T → Prop) (st : List Value) : vc xs zH_14 (n + 1) b d 14 20 ml st t Q = vga ml 0 (fun v => vc xs zH_14 n true d 14 21 ml (.ref v :: st) t Q) := by
  rw [vc_q (o := (2, 0, 0, 0, [])) (by decide +kernel)]; rfl
theorem v_14_21 (xs : Option (List Int32)) (n : Nat) (b : Bool) (d : Nat) (ml : List Value) (t : T) (Q : Option Value → T → Prop) (u : Nat) (r : List Value) : vc xs zH_14 (n + 1) b d 14 21 ml (.ref u :: r) t Q = (vtag u = 0 ∧ vc xs zH_14 n true d 14 24 ml (.ref (tref t u 1) :: r) t Q) := by
  rw [vc_q (o := (25, 0, 0, 1, [])) (by decide +kernel)]; rfl
theorem v_14_24 (xs : Option (List Int32)) (n : Nat) (b : Bool) (d : Nat) (ml : List Value) (t : T) (Q : Option Value → T → Prop) (st : List Value) : vc xs zH_14 (n + 1) b d 14 24 ml st t Q = vgi ml 3 (fun v => vc xs zH_14 n true d 14 25 ml (.int v :: st) t Q) := by
  rw [vc_q (o := (1, 0, 3, 0, [])) (by decide +kernel)]; rfl
theorem v_14_25 (xs : Option (List Int32)) (n : Nat) (b : Bool) (d : Nat) (ml : List Value) (t : T) (Q : Option Value → T → Prop) (st : List Value) : vc xs zH_14 (n + 1) b d 14 25 ml st t Q = vgi ml 2 (fun v => vc xs zH_14 n true d 14 26 ml (.int v :: st) t Q) := by
  rw [vc_q (o := (1, 0, 2, 0, [])) (by decide +kernel)]; rfl
theorem v_14_26 (xs : Option (List Int32)) (n : Nat) (b : Bool) (d : Nat) (ml : List Value) (t : T) (Q : Option Value → T → Prop) (st : List Value) : vc xs zH_14 (n + 1) b d 14 26 ml st t Q = (st.all zc1 = true ∧ vtk 1 st [] (fun as rest => rest.length ≤ 8 ∧ twc d 24 as t (fun r t' => vc xs zH_14 n true d 14 29 ml (r.toList ++ rest) t' Q))) := by
  rw [vc_q (o := (37, 0, 24, 1, [])) (by decide +kernel)]; rfl
theorem v_14_29 (xs : Option (List Int32)) (n : Nat) (b : Bool) (d : Nat) (ml : List Value) (t : T) (Q : Option Value → T → Prop) (st : List Value) : vc xs zH_14 (n + 1) b d 14 29 ml st t Q = (st.all zc1 = true ∧ vtk 3 st [] (fun as rest => rest.length ≤ 8 ∧ vrc as 1 (twc d 134 as t (fun r t' => vc xs zH_14 n true d 14 32 ml (r.toList ++ rest) t' Q)))) := by
  rw [vc_q (o := (36, 0, 134, 2, [(0, 1)])) (by decide +kernel)]; rfl
theorem v_14_32 (xs : Option (List Int32)) (n : Nat) (b : Bool) (d : Nat) (ml : List Value) (t : T) (Q : Option Value → T → Prop) (u : Int32) (r : List Value) : vc xs zH_14 (n + 1) b d 14 32 ml (.int u :: r) t Q = (if u = 0 then vc xs zH_14 n true d 14 35 ml r t Q else vc xs zH_14 n true d 14 37 ml r t Q) := by
  rw [vc_q (o := (21, 0, 37, 1, [])) (by decide +kernel)]; rfl
theorem v_14_35 (xs : Option (List Int32)) (n : Nat) (b : Bool) (d : Nat) (ml : List Value) (t : T) (Q : Option Value → T → Prop) (st : List Value) : vc xs zH_14 (n + 1) b d 14 35 ml st t Q = vc xs zH_14 n true d 14 36 ml (.int (-1) :: st) t Q := by
  rw [vc_q (o := (0, (-1), 0, 0, [])) (by decide +kernel)]; rfl
theorem v_14_36 (xs : Option (List Int32)) (n : Nat) (b : Bool) (d : Nat) (ml : List Value) (t : T) (Q : Option Value → T → Prop) (v : Int32) : vc xs zH_14 (n + 1) b d 14 36 ml [.int v] t Q = Q (some (.int v)) t := by
  rw [vc_q (o := (40, 0, 0, 0, [])) (by decide +kernel)]; rfl
theorem v_14_37 (xs : Option (List Int32)) (n : Nat) (b : Bool) (d : Nat) (ml : List Value) (t : T) (Q : Option Value → T → Prop) (st : List Value) : vc xs zH_14 (n + 1) b d 14 37 ml st t Q = vga ml 0 (fun v => vc xs zH_14 n true d 14 38 ml (.ref v :: st) t Q) := by
  rw [vc_q (o := (2, 0, 0, 0, [])) (by decide +kernel)]; rfl
theorem v_14_38 (xs : Option (List Int32)) (n : Nat) (b : Bool) (d : Nat) (ml : List Value) (t : T) (Q : Option Value → T → Prop) (u : Nat) (r : List Value) : vc xs zH_14 (n + 1) b d 14 38 ml (.ref u :: r) t Q = (vtag u = 0 ∧ vc xs zH_14 n true d 14 41 ml (.ref (tref t u 4) :: r) t Q) := by
  rw [vc_q (o := (25, 0, 0, 4, [])) (by decide +kernel)]; rfl
theorem v_14_41 (xs : Option (List Int32)) (n : Nat) (b : Bool) (d : Nat) (ml : List Value) (t : T) (Q : Option Value → T → Prop) (st : List Value) : vc xs zH_14 (n + 1) b d 14 41 ml st t Q = vgi ml 1 (fun v => vc xs zH_14 n true d 14 42 ml (.int v :: st) t Q) := by
  rw [vc_q (o := (1, 0, 1, 0, [])) (by decide +kernel)]; rfl
theorem v_14_42 (xs : Option (List Int32)) (n : Nat) (b : Bool) (d : Nat) (ml : List Value) (t : T) (Q : Option Value → T → Prop) (v : Int32) (u : Nat) (r : List Value) : vc xs zH_14 (n + 1) b d 14 42 ml (.int v :: .ref u :: r) t Q = (103 ≤ vtag u ∧ vtag u < 108 ∧ vinb v (vlen u) ∧ vc xs zH_14 n true d 14 43 ml (.ref (tref t u v.toNatClampNeg) :: r) t Q) := by
  rw [vc_q (o := (31, 0, 0, 0, [])) (by decide +kernel)]; rfl
theorem v_14_43 (xs : Option (List Int32)) (n : Nat) (b : Bool) (d : Nat) (ml : List Value) (t : T) (Q : Option Value → T → Prop) (u : Nat) (r : List Value) : vc xs zH_14 (n + 1) b d 14 43 ml (.ref u :: r) t Q = (vtag u = 11 ∧ vc xs zH_14 n true d 14 46 ml (.int (t.1 u 6) :: r) t Q) := by
  rw [vc_q (o := (24, 0, 11, 6, [])) (by decide +kernel)]; rfl
theorem v_14_46 (xs : Option (List Int32)) (n : Nat) (b : Bool) (d : Nat) (ml : List Value) (t : T) (Q : Option Value → T → Prop) (st : List Value) : vc xs zH_14 (n + 1) b d 14 46 ml st t Q = vc xs zH_14 n true d 14 47 ml (.int 4 :: st) t Q := by
  rw [vc_q (o := (0, 4, 0, 0, [])) (by decide +kernel)]; rfl
theorem v_14_47 (xs : Option (List Int32)) (n : Nat) (b : Bool) (d : Nat) (ml : List Value) (t : T) (Q : Option Value → T → Prop) (u v : Int32) (r : List Value) : vc xs zH_14 (n + 1) b d 14 47 ml (.int v :: .int u :: r) t Q = (if u = v then vc xs zH_14 n true d 14 50 ml r t Q else vc xs zH_14 n true d 14 55 ml r t Q) := by
  rw [vc_q (o := (20, 0, 55, 1, [])) (by decide +kernel)]; rfl
theorem v_14_50 (xs : Option (List Int32)) (n : Nat) (b : Bool) (d : Nat) (ml : List Value) (t : T) (Q : Option Value → T → Prop) (st : List Value) : vc xs zH_14 (n + 1) b d 14 50 ml st t Q = vc xs zH_14 n true d 14 52 ml (.int (-2) :: st) t Q := by
  rw [vc_q (o := (0, (-2), 1, 0, [])) (by decide +kernel)]; rfl
theorem v_14_52 (xs : Option (List Int32)) (n : Nat) (b : Bool) (d : Nat) (ml : List Value) (t : T) (Q : Option Value → T → Prop) (st : List Value) : vc xs zH_14 (n + 1) b d 14 52 ml st t Q = vc xs zH_14 n true d 14 66 ml st t Q := by
  rw [vc_q (o := (22, 0, 66, 0, [])) (by decide +kernel)]; rfl
theorem v_14_55 (xs : Option (List Int32)) (n : Nat) (b : Bool) (d : Nat) (ml : List Value) (t : T) (Q : Option Value → T → Prop) (st : List Value) : vc xs zH_14 (n + 1) b d 14 55 ml st t Q = vga ml 0 (fun v => vc xs zH_14 n true d 14 56 ml (.ref v :: st) t Q) := by
  rw [vc_q (o := (2, 0, 0, 0, [])) (by decide +kernel)]; rfl
theorem v_14_56 (xs : Option (List Int32)) (n : Nat) (b : Bool) (d : Nat) (ml : List Value) (t : T) (Q : Option Value → T → Prop) (u : Nat) (r : List Value) : vc xs zH_14 (n + 1) b d 14 56 ml (.ref u :: r) t Q = (vtag u = 0 ∧ vc xs zH_14 n true d 14 59 ml (.ref (tref t u 4) :: r) t Q) := by
  rw [vc_q (o := (25, 0, 0, 4, [])) (by decide +kernel)]; rfl
theorem v_14_59 (xs : Option (List Int32)) (n : Nat) (b : Bool) (d : Nat) (ml : List Value) (t : T) (Q : Option Value → T → Prop) (st : List Value) : vc xs zH_14 (n + 1) b d 14 59 ml st t Q = vgi ml 1 (fun v => vc xs zH_14 n true d 14 60 ml (.int v :: st) t Q) := by
  rw [vc_q (o := (1, 0, 1, 0, [])) (by decide +kernel)]; rfl
theorem v_14_60 (xs : Option (List Int32)) (n : Nat) (b : Bool) (d : Nat) (ml : List Value) (t : T) (Q : Option Value → T → Prop) (v : Int32) (u : Nat) (r : List Value) : vc xs zH_14 (n + 1) b d 14 60 ml (.int v :: .ref u :: r) t Q = (103 ≤ vtag u ∧ vtag u < 108 ∧ vinb v (vlen u) ∧ vc xs zH_14 n true d 14 61 ml (.ref (tref t u v.toNatClampNeg) :: r) t Q) := by
  rw [vc_q (o := (31, 0, 0, 0, [])) (by decide +kernel)]; rfl
theorem v_14_61 (xs : Option (List Int32)) (n : Nat) (b : Bool) (d : Nat) (ml : List Value) (t : T) (Q : Option Value → T → Prop) (st : List Value) : vc xs zH_14 (n + 1) b d 14 61 ml st t Q = vgi ml 2 (fun v => vc xs zH_14 n true d 14 62 ml (.int v :: st) t Q) := by
  rw [vc_q (o := (1, 0, 2, 0, [])) (by decide +kernel)]; rfl
theorem v_14_62 (xs : Option (List Int32)) (n : Nat) (b : Bool) (d : Nat) (ml : List Value) (t : T) (Q : Option Value → T → Prop) (st : List Value) : vc xs zH_14 (n + 1) b d 14 62 ml st t Q = vgi ml 3 (fun v => vc xs zH_14 n true d 14 63 ml (.int v :: st) t Q) := by
  rw [vc_q (o := (1, 0, 3, 0, [])) (by decide +kernel)]; rfl
theorem v_14_63 (xs : Option (List Int32)) (n : Nat) (b : Bool) (d : Nat) (ml : List Value) (t : T) (Q : Option Value → T → Prop) (st : List Value) : vc xs zH_14 (n + 1) b d 14 63 ml st t Q = (st.all zc1 = true ∧ vtk 3 st [] (fun as rest => rest.length ≤ 8 ∧ vrc as 11 (twc d 114 as t (fun r t' => vc xs zH_14 n true d 14 66 ml (r.toList ++ rest) t' Q)))) := by
  rw [vc_q (o := (36, 0, 114, 2, [(0, 11)])) (by decide +kernel)]; rfl
theorem v_14_66 (xs : Option (List Int32)) (n : Nat) (b : Bool) (d : Nat) (ml : List Value) (t : T) (Q : Option Value → T → Prop) (v : Int32) : vc xs zH_14 (n + 1) b d 14 66 ml [.int v] t Q = Q (some (.int v)) t := by
  rw [vc_q (o := (40, 0, 0, 0, [])) (by decide +kernel)]; rfl
def zH_15 : List Nat := []
theorem v_15_0 (xs : Option (List Int32)) (n : Nat) (b : Bool) (d : Nat) (ml : List Value) (t : T) (Q : Option Value → T → Prop) (st : List Value) : vc xs zH_15 (n + 1) b d 15 0 ml st t Q = vgi ml 1 (fun v => vc xs zH_15 n true d 15 1 ml (.int v :: st) t Q) := by
  rw [vc_q (o := (1, 0, 1, 0, [])) (by decide +kernel)]; rfl
theorem v_15_1 (xs : Option (List Int32)) (n : Nat) (b : Bool) (d : Nat) (ml : List Value) (t : T) (Q : Option Value → T → Prop) (st : List Value) : vc xs zH_15 (n + 1) b d 15 1 ml st t Q = vga ml 0 (fun v => vc xs zH_15 n true d 15 2 ml (.ref v :: st) t Q) := by
  rw [vc_q (o := (2, 0, 0, 0, [])) (by decide +kernel)]; rfl
theorem v_15_2 (xs : Option (List Int32)) (n : Nat) (b : Bool) (d : Nat) (ml : List Value) (t : T) (Q : Option Value → T → Prop) (u : Nat) (r : List Value) : vc xs zH_15 (n + 1) b d 15 2 ml (.ref u :: r) t Q = (vtag u = 0 ∧ vc xs zH_15 n true d 15 5 ml (.int (t.1 u 13) :: r) t Q) := by
  rw [vc_q (o := (24, 0, 0, 13, [])) (by decide +kernel)]; rfl
theorem v_15_5 (xs : Option (List Int32)) (n : Nat) (b : Bool) (d : Nat) (ml : List Value) (t : T) (Q : Option Value → T → Prop) (st : List Value) : vc xs zH_15 (n + 1) b d 15 5 ml st t Q = (st.all zc1 = true ∧ vtk 2 st [] (fun as rest => rest.length ≤ 8 ∧ twc d 22 as t (fun r t' => vc xs zH_15 n true d 15 8 ml (r.toList ++ rest) t' Q))) := by
  rw [vc_q (o := (37, 0, 22, 2, [])) (by decide +kernel)]; rfl
theorem v_15_8 (xs : Option (List Int32)) (n : Nat) (b : Bool) (d : Nat) (ml : List Value) (t : T) (Q : Option Value → T → Prop) (u : Int32) (r : List Value) : vc xs zH_15 (n + 1) b d 15 8 ml (.int u :: r) t Q = (if u = 0 then vc xs zH_15 n true d 15 19 ml r t Q else vc xs zH_15 n true d 15 11 ml r t Q) := by
  rw [vc_q (o := (21, 0, 19, 0, [])) (by decide +kernel)]; rfl
theorem v_15_11 (xs : Option (List Int32)) (n : Nat) (b : Bool) (d : Nat) (ml : List Value) (t : T) (Q : Option Value → T → Prop) (st : List Value) : vc xs zH_15 (n + 1) b d 15 11 ml st t Q = vgi ml 2 (fun v => vc xs zH_15 n true d 15 12 ml (.int v :: st) t Q) := by
  rw [vc_q (o := (1, 0, 2, 0, [])) (by decide +kernel)]; rfl
theorem v_15_12 (xs : Option (List Int32)) (n : Nat) (b : Bool) (d : Nat) (ml : List Value) (t : T) (Q : Option Value → T → Prop) (st : List Value) : vc xs zH_15 (n + 1) b d 15 12 ml st t Q = vc xs zH_15 n true d 15 13 ml (.int 4 :: st) t Q := by
  rw [vc_q (o := (0, 4, 0, 0, [])) (by decide +kernel)]; rfl
theorem v_15_13 (xs : Option (List Int32)) (n : Nat) (b : Bool) (d : Nat) (ml : List Value) (t : T) (Q : Option Value → T → Prop) (st : List Value) : vc xs zH_15 (n + 1) b d 15 13 ml st t Q = (st.all zc1 = true ∧ vtk 2 st [] (fun as rest => rest.length ≤ 8 ∧ twc d 22 as t (fun r t' => vc xs zH_15 n true d 15 16 ml (r.toList ++ rest) t' Q))) := by
  rw [vc_q (o := (37, 0, 22, 2, [])) (by decide +kernel)]; rfl
theorem v_15_16 (xs : Option (List Int32)) (n : Nat) (b : Bool) (d : Nat) (ml : List Value) (t : T) (Q : Option Value → T → Prop) (u : Int32) (r : List Value) : vc xs zH_15 (n + 1) b d 15 16 ml (.int u :: r) t Q = (if u = 0 then vc xs zH_15 n true d 15 19 ml r t Q else vc xs zH_15 n true d 15 21 ml r t Q) := by
  rw [vc_q (o := (21, 0, 21, 1, [])) (by decide +kernel)]; rfl
theorem v_15_19 (xs : Option (List Int32)) (n : Nat) (b : Bool) (d : Nat) (ml : List Value) (t : T) (Q : Option Value → T → Prop) (st : List Value) : vc xs zH_15 (n + 1) b d 15 19 ml st t Q = vc xs zH_15 n true d 15 20 ml (.int (-1) :: st) t Q := by
  rw [vc_q (o := (0, (-1), 0, 0, [])) (by decide +kernel)]; rfl
theorem v_15_20 (xs : Option (List Int32)) (n : Nat) (b : Bool) (d : Nat) (ml : List Value) (t : T) (Q : Option Value → T → Prop) (v : Int32) : vc xs zH_15 (n + 1) b d 15 20 ml [.int v] t Q = Q (some (.int v)) t := by
  rw [vc_q (o := (40, 0, 0, 0, [])) (by decide +kernel)]; rfl
theorem v_15_21 (xs : Option (List Int32)) (n : Nat) (b : Bool) (d : Nat) (ml : List Value) (t : T) (Q : Option Value → T → Prop) (st : List Value) : vc xs zH_15 (n + 1) b d 15 21 ml st t Q = vga ml 0 (fun v => vc xs zH_15 n true d 15 22 ml (.ref v :: st) t Q) := by
  rw [vc_q (o := (2, 0, 0, 0, [])) (by decide +kernel)]; rfl
theorem v_15_22 (xs : Option (List Int32)) (n : Nat) (b : Bool) (d : Nat) (ml : List Value) (t : T) (Q : Option Value → T → Prop) (u : Nat) (r : List Value) : vc xs zH_15 (n + 1) b d 15 22 ml (.ref u :: r) t Q = (vtag u = 0 ∧ vc xs zH_15 n true d 15 25 ml (.ref (tref t u 5) :: r) t Q) := by
  rw [vc_q (o := (25, 0, 0, 5, [])) (by decide +kernel)]; rfl
theorem v_15_25 (xs : Option (List Int32)) (n : Nat) (b : Bool) (d : Nat) (ml : List Value) (t : T) (Q : Option Value → T → Prop) (st : List Value) : vc xs zH_15 (n + 1) b d 15 25 ml st t Q = vga ml 0 (fun v => vc xs zH_15 n true d 15 26 ml (.ref v :: st) t Q) := by
  rw [vc_q (o := (2, 0, 0, 0, [])) (by decide +kernel)]; rfl
theorem v_15_26 (xs : Option (List Int32)) (n : Nat) (b : Bool) (d : Nat) (ml : List Value) (t : T) (Q : Option Value → T → Prop) (u : Nat) (r : List Value) : vc xs zH_15 (n + 1) b d 15 26 ml (.ref u :: r) t Q = (vtag u = 0 ∧ vc xs zH_15 n true d 15 29 ml (.ref (tref t u 4) :: r) t Q) := by
  rw [vc_q (o := (25, 0, 0, 4, [])) (by decide +kernel)]; rfl
theorem v_15_29 (xs : Option (List Int32)) (n : Nat) (b : Bool) (d : Nat) (ml : List Value) (t : T) (Q : Option Value → T → Prop) (st : List Value) : vc xs zH_15 (n + 1) b d 15 29 ml st t Q = vgi ml 1 (fun v => vc xs zH_15 n true d 15 30 ml (.int v :: st) t Q) := by
  rw [vc_q (o := (1, 0, 1, 0, [])) (by decide +kernel)]; rfl
theorem v_15_30 (xs : Option (List Int32)) (n : Nat) (b : Bool) (d : Nat) (ml : List Value) (t : T) (Q : Option Value → T → Prop) (v : Int32) (u : Nat) (r : List Value) : vc xs zH_15 (n + 1) b d 15 30 ml (.int v :: .ref u :: r) t Q = (103 ≤ vtag u ∧ vtag u < 108 ∧ vinb v (vlen u) ∧ vc xs zH_15 n true d 15 31 ml (.ref (tref t u v.toNatClampNeg) :: r) t Q) := by
  rw [vc_q (o := (31, 0, 0, 0, [])) (by decide +kernel)]; rfl
theorem v_15_31 (xs : Option (List Int32)) (n : Nat) (b : Bool) (d : Nat) (ml : List Value) (t : T) (Q : Option Value → T → Prop) (st : List Value) : vc xs zH_15 (n + 1) b d 15 31 ml st t Q = vga ml 0 (fun v => vc xs zH_15 n true d 15 32 ml (.ref v :: st) t Q) := by
  rw [vc_q (o := (2, 0, 0, 0, [])) (by decide +kernel)]; rfl
theorem v_15_32 (xs : Option (List Int32)) (n : Nat) (b : Bool) (d : Nat) (ml : List Value) (t : T) (Q : Option Value → T → Prop) (u : Nat) (r : List Value) : vc xs zH_15 (n + 1) b d 15 32 ml (.ref u :: r) t Q = (vtag u = 0 ∧ vc xs zH_15 n true d 15 35 ml (.ref (tref t u 0) :: r) t Q) := by
  rw [vc_q (o := (25, 0, 0, 0, [])) (by decide +kernel)]; rfl
theorem v_15_35 (xs : Option (List Int32)) (n : Nat) (b : Bool) (d : Nat) (ml : List Value) (t : T) (Q : Option Value → T → Prop) (st : List Value) : vc xs zH_15 (n + 1) b d 15 35 ml st t Q = vgi ml 2 (fun v => vc xs zH_15 n true d 15 36 ml (.int v :: st) t Q) := by
  rw [vc_q (o := (1, 0, 2, 0, [])) (by decide +kernel)]; rfl
theorem v_15_36 (xs : Option (List Int32)) (n : Nat) (b : Bool) (d : Nat) (ml : List Value) (t : T) (Q : Option Value → T → Prop) (v : Int32) (u : Nat) (r : List Value) : vc xs zH_15 (n + 1) b d 15 36 ml (.int v :: .ref u :: r) t Q = (103 ≤ vtag u ∧ vtag u < 108 ∧ vinb v (vlen u) ∧ vc xs zH_15 n true d 15 37 ml (.ref (tref t u v.toNatClampNeg) :: r) t Q) := by
  rw [vc_q (o := (31, 0, 0, 0, [])) (by decide +kernel)]; rfl
theorem v_15_37 (xs : Option (List Int32)) (n : Nat) (b : Bool) (d : Nat) (ml : List Value) (t : T) (Q : Option Value → T → Prop) (st : List Value) : vc xs zH_15 (n + 1) b d 15 37 ml st t Q = (st.all zc1 = true ∧ vtk 3 st [] (fun as rest => rest.length ≤ 8 ∧ vrc as 7 (twc d 147 as t (fun r t' => vc xs zH_15 n true d 15 40 ml (r.toList ++ rest) t' Q)))) := by
  rw [vc_q (o := (36, 0, 147, 2, [(0, 7)])) (by decide +kernel)]; rfl
theorem v_15_40 (xs : Option (List Int32)) (n : Nat) (b : Bool) (d : Nat) (ml : List Value) (t : T) (Q : Option Value → T → Prop) (u : Int32) (r : List Value) : vc xs zH_15 (n + 1) b d 15 40 ml (.int u :: r) t Q = (if u = 0 then vc xs zH_15 n true d 15 43 ml r t Q else vc xs zH_15 n true d 15 46 ml r t Q) := by
  rw [vc_q (o := (21, 0, 46, 1, [])) (by decide +kernel)]; rfl
theorem v_15_43 (xs : Option (List Int32)) (n : Nat) (b : Bool) (d : Nat) (ml : List Value) (t : T) (Q : Option Value → T → Prop) (st : List Value) : vc xs zH_15 (n + 1) b d 15 43 ml st t Q = vc xs zH_15 n true d 15 45 ml (.int (-3) :: st) t Q := by
  rw [vc_q (o := (0, (-3), 1, 0, [])) (by decide +kernel)]; rfl
theorem v_15_45 (xs : Option (List Int32)) (n : Nat) (b : Bool) (d : Nat) (ml : List Value) (t : T) (Q : Option Value → T → Prop) (v : Int32) : vc xs zH_15 (n + 1) b d 15 45 ml [.int v] t Q = Q (some (.int v)) t := by
  rw [vc_q (o := (40, 0, 0, 0, [])) (by decide +kernel)]; rfl
theorem v_15_46 (xs : Option (List Int32)) (n : Nat) (b : Bool) (d : Nat) (ml : List Value) (t : T) (Q : Option Value → T → Prop) (st : List Value) : vc xs zH_15 (n + 1) b d 15 46 ml st t Q = vga ml 0 (fun v => vc xs zH_15 n true d 15 47 ml (.ref v :: st) t Q) := by
  rw [vc_q (o := (2, 0, 0, 0, [])) (by decide +kernel)]; rfl
theorem v_15_47 (xs : Option (List Int32)) (n : Nat) (b : Bool) (d : Nat) (ml : List Value) (t : T) (Q : Option Value → T → Prop) (u : Nat) (r : List Value) : vc xs zH_15 (n + 1) b d 15 47 ml (.ref u :: r) t Q = (vtag u = 0 ∧ vc xs zH_15 n true d 15 50 ml (.ref (tref t u 5) :: r) t Q) := by
  rw [vc_q (o := (25, 0, 0, 5, [])) (by decide +kernel)]; rfl
theorem v_15_50 (xs : Option (List Int32)) (n : Nat) (b : Bool) (d : Nat) (ml : List Value) (t : T) (Q : Option Value → T → Prop) (u : Nat) (r : List Value) : vc xs zH_15 (n + 1) b d 15 50 ml (.ref u :: r) t Q = (vtag u = 7 ∧ vc xs zH_15 n true d 15 53 ml (.ref (tref t u 3) :: r) t Q) := by
  rw [vc_q (o := (25, 0, 7, 3, [])) (by decide +kernel)]; rfl
theorem v_15_53 (xs : Option (List Int32)) (n : Nat) (b : Bool) (d : Nat) (ml : List Value) (t : T) (Q : Option Value → T → Prop) (v : Nat) (r : List Value) : vc xs zH_15 (n + 1) b d 15 53 ml (.ref v :: r) t Q = vset ml 3 (.ref v) (fun l => vc xs zH_15 n true d 15 54 l r t Q) := by
  rw [vc_q (o := (4, 0, 3, 0, [])) (by decide +kernel)]; rfl
theorem v_15_54 (xs : Option (List Int32)) (n : Nat) (b : Bool) (d : Nat) (ml : List Value) (t : T) (Q : Option Value → T → Prop) (st : List Value) : vc xs zH_15 (n + 1) b d 15 54 ml st t Q = vga ml 0 (fun v => vc xs zH_15 n true d 15 55 ml (.ref v :: st) t Q) := by
  rw [vc_q (o := (2, 0, 0, 0, [])) (by decide +kernel)]; rfl
theorem v_15_55 (xs : Option (List Int32)) (n : Nat) (b : Bool) (d : Nat) (ml : List Value) (t : T) (Q : Option Value → T → Prop) (u : Nat) (r : List Value) : vc xs zH_15 (n + 1) b d 15 55 ml (.ref u :: r) t Q = (vtag u = 0 ∧ vc xs zH_15 n true d 15 58 ml (.ref (tref t u 5) :: r) t Q) := by
  rw [vc_q (o := (25, 0, 0, 5, [])) (by decide +kernel)]; rfl
theorem v_15_58 (xs : Option (List Int32)) (n : Nat) (b : Bool) (d : Nat) (ml : List Value) (t : T) (Q : Option Value → T → Prop) (st : List Value) : vc xs zH_15 (n + 1) b d 15 58 ml st t Q = vga ml 0 (fun v => vc xs zH_15 n true d 15 59 ml (.ref v :: st) t Q) := by
  rw [vc_q (o := (2, 0, 0, 0, [])) (by decide +kernel)]; rfl
theorem v_15_59 (xs : Option (List Int32)) (n : Nat) (b : Bool) (d : Nat) (ml : List Value) (t : T) (Q : Option Value → T → Prop) (u : Nat) (r : List Value) : vc xs zH_15 (n + 1) b d 15 59 ml (.ref u :: r) t Q = (vtag u = 0 ∧ vc xs zH_15 n true d 15 62 ml (.ref (tref t u 12) :: r) t Q) := by
  rw [vc_q (o := (25, 0, 0, 12, [])) (by decide +kernel)]; rfl
theorem v_15_62 (xs : Option (List Int32)) (n : Nat) (b : Bool) (d : Nat) (ml : List Value) (t : T) (Q : Option Value → T → Prop) (v : Nat) (u : Nat) (r : List Value) : vc xs zH_15 (n + 1) b d 15 62 ml (.ref v :: .ref u :: r) t Q = (vtag u = 7 ∧ tmut u 3 = true ∧ vc xs zH_15 n true d 15 65 ml r (tsr t u 3 v) Q) := by
  rw [vc_q (o := (28, 0, 7, 3, [])) (by decide +kernel)]; rfl
theorem v_15_65 (xs : Option (List Int32)) (n : Nat) (b : Bool) (d : Nat) (ml : List Value) (t : T) (Q : Option Value → T → Prop) (st : List Value) : vc xs zH_15 (n + 1) b d 15 65 ml st t Q = vga ml 0 (fun v => vc xs zH_15 n true d 15 66 ml (.ref v :: st) t Q) := by
  rw [vc_q (o := (2, 0, 0, 0, [])) (by decide +kernel)]; rfl
theorem v_15_66 (xs : Option (List Int32)) (n : Nat) (b : Bool) (d : Nat) (ml : List Value) (t : T) (Q : Option Value → T → Prop) (st : List Value) : vc xs zH_15 (n + 1) b d 15 66 ml st t Q = vga ml 3 (fun v => vc xs zH_15 n true d 15 67 ml (.ref v :: st) t Q) := by
  rw [vc_q (o := (2, 0, 3, 0, [])) (by decide +kernel)]; rfl
theorem v_15_67 (xs : Option (List Int32)) (n : Nat) (b : Bool) (d : Nat) (ml : List Value) (t : T) (Q : Option Value → T → Prop) (v : Nat) (u : Nat) (r : List Value) : vc xs zH_15 (n + 1) b d 15 67 ml (.ref v :: .ref u :: r) t Q = (vtag u = 0 ∧ tmut u 12 = true ∧ vc xs zH_15 n true d 15 70 ml r (tsr t u 12 v) Q) := by
  rw [vc_q (o := (28, 0, 0, 12, [])) (by decide +kernel)]; rfl
theorem v_15_70 (xs : Option (List Int32)) (n : Nat) (b : Bool) (d : Nat) (ml : List Value) (t : T) (Q : Option Value → T → Prop) (st : List Value) : vc xs zH_15 (n + 1) b d 15 70 ml st t Q = vga ml 0 (fun v => vc xs zH_15 n true d 15 71 ml (.ref v :: st) t Q) := by
  rw [vc_q (o := (2, 0, 0, 0, [])) (by decide +kernel)]; rfl
theorem v_15_71 (xs : Option (List Int32)) (n : Nat) (b : Bool) (d : Nat) (ml : List Value) (t : T) (Q : Option Value → T → Prop) (u : Nat) (r : List Value) : vc xs zH_15 (n + 1) b d 15 71 ml (.ref u :: r) t Q = (vtag u = 0 ∧ vc xs zH_15 n true d 15 74 ml (.ref (tref t u 12) :: r) t Q) := by
  rw [vc_q (o := (25, 0, 0, 12, [])) (by decide +kernel)]; rfl
theorem v_15_74 (xs : Option (List Int32)) (n : Nat) (b : Bool) (d : Nat) (ml : List Value) (t : T) (Q : Option Value → T → Prop) (st : List Value) : vc xs zH_15 (n + 1) b d 15 74 ml st t Q = (st.all zc1 = true ∧ vtk 1 st [] (fun as rest => rest.length ≤ 8 ∧ vrc as 8 (twc d 109 as t (fun r t' => vc xs zH_15 n true d 15 77 ml (r.toList ++ rest) t' Q)))) := by
  rw [vc_q (o := (36, 0, 109, 0, [(0, 8)])) (by decide +kernel)]; rfl
theorem v_15_77 (xs : Option (List Int32)) (n : Nat) (b : Bool) (d : Nat) (ml : List Value) (t : T) (Q : Option Value → T → Prop) (st : List Value) : vc xs zH_15 (n + 1) b d 15 77 ml st t Q = vga ml 0 (fun v => vc xs zH_15 n true d 15 78 ml (.ref v :: st) t Q) := by
  rw [vc_q (o := (2, 0, 0, 0, [])) (by decide +kernel)]; rfl
theorem v_15_78 (xs : Option (List Int32)) (n : Nat) (b : Bool) (d : Nat) (ml : List Value) (t : T) (Q : Option Value → T → Prop) (u : Nat) (r : List Value) : vc xs zH_15 (n + 1) b d 15 78 ml (.ref u :: r) t Q = (vtag u = 0 ∧ vc xs zH_15 n true d 15 81 ml (.ref (tref t u 12) :: r) t Q) := by
  rw [vc_q (o := (25, 0, 0, 12, [])) (by decide +kernel)]; rfl
theorem v_15_81 (xs : Option (List Int32)) (n : Nat) (b : Bool) (d : Nat) (ml : List Value) (t : T) (Q : Option Value → T → Prop) (u : Nat) (r : List Value) : vc xs zH_15 (n + 1) b d 15 81 ml (.ref u :: r) t Q = (vtag u = 8 ∧ vc xs zH_15 n true d 15 84 ml (.int (t.1 u 1) :: r) t Q) := by
  rw [vc_q (o := (24, 0, 8, 1, [])) (by decide +kernel)]; rfl
theorem v_15_84 (xs : Option (List Int32)) (n : Nat) (b : Bool) (d : Nat) (ml : List Value) (t : T) (Q : Option Value → T → Prop) (v : Int32) : vc xs zH_15 (n + 1) b d 15 84 ml [.int v] t Q = Q (some (.int v)) t := by
  rw [vc_q (o := (40, 0, 0, 0, [])) (by decide +kernel)]; rfl
def zH_16 : List Nat := []
theorem v_16_0 (xs : Option (List Int32)) (n : Nat) (b : Bool) (d : Nat) (ml : List Value) (t : T) (Q : Option Value → T → Prop) (st : List Value) : vc xs zH_16 (n + 1) b d 16 0 ml st t Q = vga ml 0 (fun v => vc xs zH_16 n true d 16 1 ml (.ref v :: st) t Q) := by
  rw [vc_q (o := (2, 0, 0, 0, [])) (by decide +kernel)]; rfl
theorem v_16_1 (xs : Option (List Int32)) (n : Nat) (b : Bool) (d : Nat) (ml : List Value) (t : T) (Q : Option Value → T → Prop) (st : List Value) : vc xs zH_16 (n + 1) b d 16 1 ml st t Q = vga ml 0 (fun v => vc xs zH_16 n true d 16 2 ml (.ref v :: st) t Q) := by
  rw [vc_q (o := (2, 0, 0, 0, [])) (by decide +kernel)]; rfl
theorem v_16_2 (xs : Option (List Int32)) (n : Nat) (b : Bool) (d : Nat) (ml : List Value) (t : T) (Q : Option Value → T → Prop) (u : Nat) (r : List Value) : vc xs zH_16 (n + 1) b d 16 2 ml (.ref u :: r) t Q = (vtag u = 0 ∧ vc xs zH_16 n true d 16 5 ml (.ref (tref t u 12) :: r) t Q) := by
  rw [vc_q (o := (25, 0, 0, 12, [])) (by decide +kernel)]; rfl
theorem v_16_5 (xs : Option (List Int32)) (n : Nat) (b : Bool) (d : Nat) (ml : List Value) (t : T) (Q : Option Value → T → Prop) (st : List Value) : vc xs zH_16 (n + 1) b d 16 5 ml st t Q = vgi ml 1 (fun v => vc xs zH_16 n true d 16 6 ml (.int v :: st) t Q) := by
  rw [vc_q (o := (1, 0, 1, 0, [])) (by decide +kernel)]; rfl
theorem v_16_6 (xs : Option (List Int32)) (n : Nat) (b : Bool) (d : Nat) (ml : List Value) (t : T) (Q : Option Value → T → Prop) (st : List Value) : vc xs zH_16 (n + 1) b d 16 6 ml st t Q = vgi ml 2 (fun v => vc xs zH_16 n true d 16 7 ml (.int v :: st) t Q) := by
  rw [vc_q (o := (1, 0, 2, 0, [])) (by decide +kernel)]; rfl
theorem v_16_7 (xs : Option (List Int32)) (n : Nat) (b : Bool) (d : Nat) (ml : List Value) (t : T) (Q : Option Value → T → Prop) (st : List Value) : vc xs zH_16 (n + 1) b d 16 7 ml st t Q = (st.all zc1 = true ∧ vtk 4 st [] (fun as rest => rest.length ≤ 8 ∧ vrc as 0 (twc d 26 as t (fun r t' => vc xs zH_16 n true d 16 10 ml (r.toList ++ rest) t' Q)))) := by
  rw [vc_q (o := (36, 0, 26, 3, [(0, 0)])) (by decide +kernel)]; rfl
theorem v_16_10 (xs : Option (List Int32)) (n : Nat) (b : Bool) (d : Nat) (ml : List Value) (t : T) (Q : Option Value → T → Prop) (v : Int32) : vc xs zH_16 (n + 1) b d 16 10 ml [.int v] t Q = ((v = 0 ∨ v = 1) ∧ Q (some (.int v)) t) := by
  rw [vc_q (o := (41, 0, 0, 0, [])) (by decide +kernel)]; rfl
def zH_17 : List Nat := []
theorem v_17_0 (xs : Option (List Int32)) (n : Nat) (b : Bool) (d : Nat) (ml : List Value) (t : T) (Q : Option Value → T → Prop) (st : List Value) : vc xs zH_17 (n + 1) b d 17 0 ml st t Q = vgi ml 1 (fun v => vc xs zH_17 n true d 17 1 ml (.int v :: st) t Q) := by
  rw [vc_q (o := (1, 0, 1, 0, [])) (by decide +kernel)]; rfl
theorem v_17_1 (xs : Option (List Int32)) (n : Nat) (b : Bool) (d : Nat) (ml : List Value) (t : T) (Q : Option Value → T → Prop) (st : List Value) : vc xs zH_17 (n + 1) b d 17 1 ml st t Q = vc xs zH_17 n true d 17 2 ml (.int 4 :: st) t Q := by
  rw [vc_q (o := (0, 4, 0, 0, [])) (by decide +kernel)]; rfl
theorem v_17_2 (xs : Option (List Int32)) (n : Nat) (b : Bool) (d : Nat) (ml : List Value) (t : T) (Q : Option Value → T → Prop) (st : List Value) : vc xs zH_17 (n + 1) b d 17 2 ml st t Q = (st.all zc1 = true ∧ vtk 2 st [] (fun as rest => rest.length ≤ 8 ∧ twc d 22 as t (fun r t' => vc xs zH_17 n true d 17 5 ml (r.toList ++ rest) t' Q))) := by
  rw [vc_q (o := (37, 0, 22, 2, [])) (by decide +kernel)]; rfl
theorem v_17_5 (xs : Option (List Int32)) (n : Nat) (b : Bool) (d : Nat) (ml : List Value) (t : T) (Q : Option Value → T → Prop) (u : Int32) (r : List Value) : vc xs zH_17 (n + 1) b d 17 5 ml (.int u :: r) t Q = (if u = 0 then vc xs zH_17 n true d 17 16 ml r t Q else vc xs zH_17 n true d 17 8 ml r t Q) := by
  rw [vc_q (o := (21, 0, 16, 0, [])) (by decide +kernel)]; rfl
theorem v_17_8 (xs : Option (List Int32)) (n : Nat) (b : Bool) (d : Nat) (ml : List Value) (t : T) (Q : Option Value → T → Prop) (st : List Value) : vc xs zH_17 (n + 1) b d 17 8 ml st t Q = vgi ml 2 (fun v => vc xs zH_17 n true d 17 9 ml (.int v :: st) t Q) := by
  rw [vc_q (o := (1, 0, 2, 0, [])) (by decide +kernel)]; rfl
theorem v_17_9 (xs : Option (List Int32)) (n : Nat) (b : Bool) (d : Nat) (ml : List Value) (t : T) (Q : Option Value → T → Prop) (st : List Value) : vc xs zH_17 (n + 1) b d 17 9 ml st t Q = vc xs zH_17 n true d 17 10 ml (.int 4 :: st) t Q := by
  rw [vc_q (o := (0, 4, 0, 0, [])) (by decide +kernel)]; rfl
theorem v_17_10 (xs : Option (List Int32)) (n : Nat) (b : Bool) (d : Nat) (ml : List Value) (t : T) (Q : Option Value → T → Prop) (st : List Value) : vc xs zH_17 (n + 1) b d 17 10 ml st t Q = (st.all zc1 = true ∧ vtk 2 st [] (fun as rest => rest.length ≤ 8 ∧ twc d 22 as t (fun r t' => vc xs zH_17 n true d 17 13 ml (r.toList ++ rest) t' Q))) := by
  rw [vc_q (o := (37, 0, 22, 2, [])) (by decide +kernel)]; rfl
theorem v_17_13 (xs : Option (List Int32)) (n : Nat) (b : Bool) (d : Nat) (ml : List Value) (t : T) (Q : Option Value → T → Prop) (u : Int32) (r : List Value) : vc xs zH_17 (n + 1) b d 17 13 ml (.int u :: r) t Q = (if u = 0 then vc xs zH_17 n true d 17 16 ml r t Q else vc xs zH_17 n true d 17 18 ml r t Q) := by
  rw [vc_q (o := (21, 0, 18, 1, [])) (by decide +kernel)]; rfl
theorem v_17_16 (xs : Option (List Int32)) (n : Nat) (b : Bool) (d : Nat) (ml : List Value) (t : T) (Q : Option Value → T → Prop) (st : List Value) : vc xs zH_17 (n + 1) b d 17 16 ml st t Q = vc xs zH_17 n true d 17 17 ml (.int (-1) :: st) t Q := by
  rw [vc_q (o := (0, (-1), 0, 0, [])) (by decide +kernel)]; rfl
theorem v_17_17 (xs : Option (List Int32)) (n : Nat) (b : Bool) (d : Nat) (ml : List Value) (t : T) (Q : Option Value → T → Prop) (v : Int32) : vc xs zH_17 (n + 1) b d 17 17 ml [.int v] t Q = Q (some (.int v)) t := by
  rw [vc_q (o := (40, 0, 0, 0, [])) (by decide +kernel)]; rfl
theorem v_17_18 (xs : Option (List Int32)) (n : Nat) (b : Bool) (d : Nat) (ml : List Value) (t : T) (Q : Option Value → T → Prop) (st : List Value) : vc xs zH_17 (n + 1) b d 17 18 ml st t Q = vga ml 0 (fun v => vc xs zH_17 n true d 17 19 ml (.ref v :: st) t Q) := by
  rw [vc_q (o := (2, 0, 0, 0, [])) (by decide +kernel)]; rfl
theorem v_17_19 (xs : Option (List Int32)) (n : Nat) (b : Bool) (d : Nat) (ml : List Value) (t : T) (Q : Option Value → T → Prop) (u : Nat) (r : List Value) : vc xs zH_17 (n + 1) b d 17 19 ml (.ref u :: r) t Q = (vtag u = 0 ∧ vc xs zH_17 n true d 17 22 ml (.ref (tref t u 11) :: r) t Q) := by
  rw [vc_q (o := (25, 0, 0, 11, [])) (by decide +kernel)]; rfl
theorem v_17_22 (xs : Option (List Int32)) (n : Nat) (b : Bool) (d : Nat) (ml : List Value) (t : T) (Q : Option Value → T → Prop) (st : List Value) : vc xs zH_17 (n + 1) b d 17 22 ml st t Q = vga ml 0 (fun v => vc xs zH_17 n true d 17 23 ml (.ref v :: st) t Q) := by
  rw [vc_q (o := (2, 0, 0, 0, [])) (by decide +kernel)]; rfl
theorem v_17_23 (xs : Option (List Int32)) (n : Nat) (b : Bool) (d : Nat) (ml : List Value) (t : T) (Q : Option Value → T → Prop) (u : Nat) (r : List Value) : vc xs zH_17 (n + 1) b d 17 23 ml (.ref u :: r) t Q = (vtag u = 0 ∧ vc xs zH_17 n true d 17 26 ml (.ref (tref t u 0) :: r) t Q) := by
  rw [vc_q (o := (25, 0, 0, 0, [])) (by decide +kernel)]; rfl
theorem v_17_26 (xs : Option (List Int32)) (n : Nat) (b : Bool) (d : Nat) (ml : List Value) (t : T) (Q : Option Value → T → Prop) (st : List Value) : vc xs zH_17 (n + 1) b d 17 26 ml st t Q = vgi ml 2 (fun v => vc xs zH_17 n true d 17 27 ml (.int v :: st) t Q) := by
  rw [vc_q (o := (1, 0, 2, 0, [])) (by decide +kernel)]; rfl
theorem v_17_27 (xs : Option (List Int32)) (n : Nat) (b : Bool) (d : Nat) (ml : List Value) (t : T) (Q : Option Value → T → Prop) (v : Int32) (u : Nat) (r : List Value) : vc xs zH_17 (n + 1) b d 17 27 ml (.int v :: .ref u :: r) t Q = (103 ≤ vtag u ∧ vtag u < 108 ∧ vinb v (vlen u) ∧ vc xs zH_17 n true d 17 28 ml (.ref (tref t u v.toNatClampNeg) :: r) t Q) := by
  rw [vc_q (o := (31, 0, 0, 0, [])) (by decide +kernel)]; rfl
theorem v_17_28 (xs : Option (List Int32)) (n : Nat) (b : Bool) (d : Nat) (ml : List Value) (t : T) (Q : Option Value → T → Prop) (st : List Value) : vc xs zH_17 (n + 1) b d 17 28 ml st t Q = (st.all zc1 = true ∧ vtk 2 st [] (fun as rest => rest.length ≤ 8 ∧ vrc as 4 (twc d 168 as t (fun r t' => vc xs zH_17 n true d 17 31 ml (r.toList ++ rest) t' Q)))) := by
  rw [vc_q (o := (36, 0, 168, 1, [(0, 4)])) (by decide +kernel)]; rfl
theorem v_17_31 (xs : Option (List Int32)) (n : Nat) (b : Bool) (d : Nat) (ml : List Value) (t : T) (Q : Option Value → T → Prop) (st : List Value) : vc xs zH_17 (n + 1) b d 17 31 ml st t Q = vga ml 0 (fun v => vc xs zH_17 n true d 17 32 ml (.ref v :: st) t Q) := by
  rw [vc_q (o := (2, 0, 0, 0, [])) (by decide +kernel)]; rfl
theorem v_17_32 (xs : Option (List Int32)) (n : Nat) (b : Bool) (d : Nat) (ml : List Value) (t : T) (Q : Option Value → T → Prop) (u : Nat) (r : List Value) : vc xs zH_17 (n + 1) b d 17 32 ml (.ref u :: r) t Q = (vtag u = 0 ∧ vc xs zH_17 n true d 17 35 ml (.ref (tref t u 6) :: r) t Q) := by
  rw [vc_q (o := (25, 0, 0, 6, [])) (by decide +kernel)]; rfl
theorem v_17_35 (xs : Option (List Int32)) (n : Nat) (b : Bool) (d : Nat) (ml : List Value) (t : T) (Q : Option Value → T → Prop) (st : List Value) : vc xs zH_17 (n + 1) b d 17 35 ml st t Q = vga ml 0 (fun v => vc xs zH_17 n true d 17 36 ml (.ref v :: st) t Q) := by
  rw [vc_q (o := (2, 0, 0, 0, [])) (by decide +kernel)]; rfl
theorem v_17_36 (xs : Option (List Int32)) (n : Nat) (b : Bool) (d : Nat) (ml : List Value) (t : T) (Q : Option Value → T → Prop) (u : Nat) (r : List Value) : vc xs zH_17 (n + 1) b d 17 36 ml (.ref u :: r) t Q = (vtag u = 0 ∧ vc xs zH_17 n true d 17 39 ml (.ref (tref t u 11) :: r) t Q) := by
  rw [vc_q (o := (25, 0, 0, 11, [])) (by decide +kernel)]; rfl
theorem v_17_39 (xs : Option (List Int32)) (n : Nat) (b : Bool) (d : Nat) (ml : List Value) (t : T) (Q : Option Value → T → Prop) (st : List Value) : vc xs zH_17 (n + 1) b d 17 39 ml st t Q = (st.all zc1 = true ∧ vtk 2 st [] (fun as rest => rest.length ≤ 8 ∧ vrc as 9 (twc d 141 as t (fun r t' => vc xs zH_17 n true d 17 42 ml (r.toList ++ rest) t' Q)))) := by
  rw [vc_q (o := (36, 0, 141, 1, [(0, 9)])) (by decide +kernel)]; rfl
theorem v_17_42 (xs : Option (List Int32)) (n : Nat) (b : Bool) (d : Nat) (ml : List Value) (t : T) (Q : Option Value → T → Prop) (st : List Value) : vc xs zH_17 (n + 1) b d 17 42 ml st t Q = vga ml 0 (fun v => vc xs zH_17 n true d 17 43 ml (.ref v :: st) t Q) := by
  rw [vc_q (o := (2, 0, 0, 0, [])) (by decide +kernel)]; rfl
theorem v_17_43 (xs : Option (List Int32)) (n : Nat) (b : Bool) (d : Nat) (ml : List Value) (t : T) (Q : Option Value → T → Prop) (u : Nat) (r : List Value) : vc xs zH_17 (n + 1) b d 17 43 ml (.ref u :: r) t Q = (vtag u = 0 ∧ vc xs zH_17 n true d 17 46 ml (.ref (tref t u 8) :: r) t Q) := by
  rw [vc_q (o := (25, 0, 0, 8, [])) (by decide +kernel)]; rfl
theorem v_17_46 (xs : Option (List Int32)) (n : Nat) (b : Bool) (d : Nat) (ml : List Value) (t : T) (Q : Option Value → T → Prop) (st : List Value) : vc xs zH_17 (n + 1) b d 17 46 ml st t Q = vgi ml 1 (fun v => vc xs zH_17 n true d 17 47 ml (.int v :: st) t Q) := by
  rw [vc_q (o := (1, 0, 1, 0, [])) (by decide +kernel)]; rfl
theorem v_17_47 (xs : Option (List Int32)) (n : Nat) (b : Bool) (d : Nat) (ml : List Value) (t : T) (Q : Option Value → T → Prop) (v : Int32) (u : Nat) (r : List Value) : vc xs zH_17 (n + 1) b d 17 47 ml (.int v :: .ref u :: r) t Q = (103 ≤ vtag u ∧ vtag u < 108 ∧ vinb v (vlen u) ∧ vc xs zH_17 n true d 17 48 ml (.ref (tref t u v.toNatClampNeg) :: r) t Q) := by
  rw [vc_q (o := (31, 0, 0, 0, [])) (by decide +kernel)]; rfl
theorem v_17_48 (xs : Option (List Int32)) (n : Nat) (b : Bool) (d : Nat) (ml : List Value) (t : T) (Q : Option Value → T → Prop) (st : List Value) : vc xs zH_17 (n + 1) b d 17 48 ml st t Q = vga ml 0 (fun v => vc xs zH_17 n true d 17 49 ml (.ref v :: st) t Q) := by
  rw [vc_q (o := (2, 0, 0, 0, [])) (by decide +kernel)]; rfl
theorem v_17_49 (xs : Option (List Int32)) (n : Nat) (b : Bool) (d : Nat) (ml : List Value) (t : T) (Q : Option Value → T → Prop) (u : Nat) (r : List Value) : vc xs zH_17 (n + 1) b d 17 49 ml (.ref u :: r) t Q = (vtag u = 0 ∧ vc xs zH_17 n true d 17 52 ml (.ref (tref t u 11) :: r) t Q) := by
  rw [vc_q (o := (25, 0, 0, 11, [])) (by decide +kernel)]; rfl
theorem v_17_52 (xs : Option (List Int32)) (n : Nat) (b : Bool) (d : Nat) (ml : List Value) (t : T) (Q : Option Value → T → Prop) (st : List Value) : vc xs zH_17 (n + 1) b d 17 52 ml st t Q = (st.all zc1 = true ∧ vtk 2 st [] (fun as rest => rest.length ≤ 8 ∧ vrc as 8 (twc d 107 as t (fun r t' => vc xs zH_17 n true d 17 55 ml (r.toList ++ rest) t' Q)))) := by
  rw [vc_q (o := (36, 0, 107, 1, [(0, 8)])) (by decide +kernel)]; rfl
theorem v_17_55 (xs : Option (List Int32)) (n : Nat) (b : Bool) (d : Nat) (ml : List Value) (t : T) (Q : Option Value → T → Prop) (u : Int32) (r : List Value) : vc xs zH_17 (n + 1) b d 17 55 ml (.int u :: r) t Q = (if u = 0 then vc xs zH_17 n true d 17 58 ml r t Q else vc xs zH_17 n true d 17 61 ml r t Q) := by
  rw [vc_q (o := (21, 0, 61, 1, [])) (by decide +kernel)]; rfl
theorem v_17_58 (xs : Option (List Int32)) (n : Nat) (b : Bool) (d : Nat) (ml : List Value) (t : T) (Q : Option Value → T → Prop) (st : List Value) : vc xs zH_17 (n + 1) b d 17 58 ml st t Q = vc xs zH_17 n true d 17 60 ml (.int (-2) :: st) t Q := by
  rw [vc_q (o := (0, (-2), 1, 0, [])) (by decide +kernel)]; rfl
theorem v_17_60 (xs : Option (List Int32)) (n : Nat) (b : Bool) (d : Nat) (ml : List Value) (t : T) (Q : Option Value → T → Prop) (v : Int32) : vc xs zH_17 (n + 1) b d 17 60 ml [.int v] t Q = Q (some (.int v)) t := by
  rw [vc_q (o := (40, 0, 0, 0, [])) (by decide +kernel)]; rfl
theorem v_17_61 (xs : Option (List Int32)) (n : Nat) (b : Bool) (d : Nat) (ml : List Value) (t : T) (Q : Option Value → T → Prop) (st : List Value) : vc xs zH_17 (n + 1) b d 17 61 ml st t Q = vga ml 0 (fun v => vc xs zH_17 n true d 17 62 ml (.ref v :: st) t Q) := by
  rw [vc_q (o := (2, 0, 0, 0, [])) (by decide +kernel)]; rfl
theorem v_17_62 (xs : Option (List Int32)) (n : Nat) (b : Bool) (d : Nat) (ml : List Value) (t : T) (Q : Option Value → T → Prop) (u : Nat) (r : List Value) : vc xs zH_17 (n + 1) b d 17 62 ml (.ref u :: r) t Q = (vtag u = 0 ∧ vc xs zH_17 n true d 17 65 ml (.ref (tref t u 8) :: r) t Q) := by
  rw [vc_q (o := (25, 0, 0, 8, [])) (by decide +kernel)]; rfl
theorem v_17_65 (xs : Option (List Int32)) (n : Nat) (b : Bool) (d : Nat) (ml : List Value) (t : T) (Q : Option Value → T → Prop) (st : List Value) : vc xs zH_17 (n + 1) b d 17 65 ml st t Q = vgi ml 1 (fun v => vc xs zH_17 n true d 17 66 ml (.int v :: st) t Q) := by
  rw [vc_q (o := (1, 0, 1, 0, [])) (by decide +kernel)]; rfl
theorem v_17_66 (xs : Option (List Int32)) (n : Nat) (b : Bool) (d : Nat) (ml : List Value) (t : T) (Q : Option Value → T → Prop) (v : Int32) (u : Nat) (r : List Value) : vc xs zH_17 (n + 1) b d 17 66 ml (.int v :: .ref u :: r) t Q = (103 ≤ vtag u ∧ vtag u < 108 ∧ vinb v (vlen u) ∧ vc xs zH_17 n true d 17 67 ml (.ref (tref t u v.toNatClampNeg) :: r) t Q) := by
  rw [vc_q (o := (31, 0, 0, 0, [])) (by decide +kernel)]; rfl
theorem v_17_67 (xs : Option (List Int32)) (n : Nat) (b : Bool) (d : Nat) (ml : List Value) (t : T) (Q : Option Value → T → Prop) (st : List Value) : vc xs zH_17 (n + 1) b d 17 67 ml st t Q = (st.all zc1 = true ∧ vtk 1 st [] (fun as rest => rest.length ≤ 8 ∧ vrc as 8 (twc d 109 as t (fun r t' => vc xs zH_17 n true d 17 70 ml (r.toList ++ rest) t' Q)))) := by
  rw [vc_q (o := (36, 0, 109, 0, [(0, 8)])) (by decide +kernel)]; rfl
theorem v_17_70 (xs : Option (List Int32)) (n : Nat) (b : Bool) (d : Nat) (ml : List Value) (t : T) (Q : Option Value → T → Prop) (st : List Value) : vc xs zH_17 (n + 1) b d 17 70 ml st t Q = vga ml 0 (fun v => vc xs zH_17 n true d 17 71 ml (.ref v :: st) t Q) := by
  rw [vc_q (o := (2, 0, 0, 0, [])) (by decide +kernel)]; rfl
theorem v_17_71 (xs : Option (List Int32)) (n : Nat) (b : Bool) (d : Nat) (ml : List Value) (t : T) (Q : Option Value → T → Prop) (st : List Value) : vc xs zH_17 (n + 1) b d 17 71 ml st t Q = (st.all zc1 = true ∧ vtk 1 st [] (fun as rest => rest.length ≤ 8 ∧ vrc as 0 (twc d 27 as t (fun r t' => vc xs zH_17 n true d 17 74 ml (r.toList ++ rest) t' Q)))) := by
  rw [vc_q (o := (36, 0, 27, 0, [(0, 0)])) (by decide +kernel)]; rfl
theorem v_17_74 (xs : Option (List Int32)) (n : Nat) (b : Bool) (d : Nat) (ml : List Value) (t : T) (Q : Option Value → T → Prop) (st : List Value) : vc xs zH_17 (n + 1) b d 17 74 ml st t Q = vga ml 0 (fun v => vc xs zH_17 n true d 17 75 ml (.ref v :: st) t Q) := by
  rw [vc_q (o := (2, 0, 0, 0, [])) (by decide +kernel)]; rfl
theorem v_17_75 (xs : Option (List Int32)) (n : Nat) (b : Bool) (d : Nat) (ml : List Value) (t : T) (Q : Option Value → T → Prop) (u : Nat) (r : List Value) : vc xs zH_17 (n + 1) b d 17 75 ml (.ref u :: r) t Q = (vtag u = 0 ∧ vc xs zH_17 n true d 17 78 ml (.ref (tref t u 8) :: r) t Q) := by
  rw [vc_q (o := (25, 0, 0, 8, [])) (by decide +kernel)]; rfl
theorem v_17_78 (xs : Option (List Int32)) (n : Nat) (b : Bool) (d : Nat) (ml : List Value) (t : T) (Q : Option Value → T → Prop) (st : List Value) : vc xs zH_17 (n + 1) b d 17 78 ml st t Q = vgi ml 1 (fun v => vc xs zH_17 n true d 17 79 ml (.int v :: st) t Q) := by
  rw [vc_q (o := (1, 0, 1, 0, [])) (by decide +kernel)]; rfl
theorem v_17_79 (xs : Option (List Int32)) (n : Nat) (b : Bool) (d : Nat) (ml : List Value) (t : T) (Q : Option Value → T → Prop) (v : Int32) (u : Nat) (r : List Value) : vc xs zH_17 (n + 1) b d 17 79 ml (.int v :: .ref u :: r) t Q = (103 ≤ vtag u ∧ vtag u < 108 ∧ vinb v (vlen u) ∧ vc xs zH_17 n true d 17 80 ml (.ref (tref t u v.toNatClampNeg) :: r) t Q) := by
  rw [vc_q (o := (31, 0, 0, 0, [])) (by decide +kernel)]; rfl
theorem v_17_80 (xs : Option (List Int32)) (n : Nat) (b : Bool) (d : Nat) (ml : List Value) (t : T) (Q : Option Value → T → Prop) (u : Nat) (r : List Value) : vc xs zH_17 (n + 1) b d 17 80 ml (.ref u :: r) t Q = (vtag u = 8 ∧ vc xs zH_17 n true d 17 83 ml (.int (t.1 u 1) :: r) t Q) := by
  rw [vc_q (o := (24, 0, 8, 1, [])) (by decide +kernel)]; rfl
theorem v_17_83 (xs : Option (List Int32)) (n : Nat) (b : Bool) (d : Nat) (ml : List Value) (t : T) (Q : Option Value → T → Prop) (v : Int32) : vc xs zH_17 (n + 1) b d 17 83 ml [.int v] t Q = Q (some (.int v)) t := by
  rw [vc_q (o := (40, 0, 0, 0, [])) (by decide +kernel)]; rfl
def zH_18 : List Nat := [14]
theorem v_18_0 (xs : Option (List Int32)) (n : Nat) (b : Bool) (d : Nat) (ml : List Value) (t : T) (Q : Option Value → T → Prop) (st : List Value) : vc xs zH_18 (n + 1) b d 18 0 ml st t Q = vga ml 0 (fun v => vc xs zH_18 n true d 18 1 ml (.ref v :: st) t Q) := by
  rw [vc_q (o := (2, 0, 0, 0, [])) (by decide +kernel)]; rfl
theorem v_18_1 (xs : Option (List Int32)) (n : Nat) (b : Bool) (d : Nat) (ml : List Value) (t : T) (Q : Option Value → T → Prop) (st : List Value) : vc xs zH_18 (n + 1) b d 18 1 ml st t Q = (st.all zc1 = true ∧ vtk 1 st [] (fun as rest => rest.length ≤ 8 ∧ vrc as 0 (twc d 27 as t (fun r t' => vc xs zH_18 n true d 18 4 ml (r.toList ++ rest) t' Q)))) := by
  rw [vc_q (o := (36, 0, 27, 0, [(0, 0)])) (by decide +kernel)]; rfl
theorem v_18_4 (xs : Option (List Int32)) (n : Nat) (b : Bool) (d : Nat) (ml : List Value) (t : T) (Q : Option Value → T → Prop) (st : List Value) : vc xs zH_18 (n + 1) b d 18 4 ml st t Q = vga ml 0 (fun v => vc xs zH_18 n true d 18 5 ml (.ref v :: st) t Q) := by
  rw [vc_q (o := (2, 0, 0, 0, [])) (by decide +kernel)]; rfl
theorem v_18_5 (xs : Option (List Int32)) (n : Nat) (b : Bool) (d : Nat) (ml : List Value) (t : T) (Q : Option Value → T → Prop) (u : Nat) (r : List Value) : vc xs zH_18 (n + 1) b d 18 5 ml (.ref u :: r) t Q = (vtag u = 0 ∧ vc xs zH_18 n true d 18 8 ml (.ref (tref t u 10) :: r) t Q) := by
  rw [vc_q (o := (25, 0, 0, 10, [])) (by decide +kernel)]; rfl
theorem v_18_8 (xs : Option (List Int32)) (n : Nat) (b : Bool) (d : Nat) (ml : List Value) (t : T) (Q : Option Value → T → Prop) (st : List Value) : vc xs zH_18 (n + 1) b d 18 8 ml st t Q = vc xs zH_18 n true d 18 9 ml (.int 0 :: st) t Q := by
  rw [vc_q (o := (0, 0, 0, 0, [])) (by decide +kernel)]; rfl
theorem v_18_9 (xs : Option (List Int32)) (n : Nat) (b : Bool) (d : Nat) (ml : List Value) (t : T) (Q : Option Value → T → Prop) (st : List Value) : vc xs zH_18 (n + 1) b d 18 9 ml st t Q = (st.all zc1 = true ∧ vtk 2 st [] (fun as rest => rest.length ≤ 8 ∧ twc d 172 as t (fun r t' => vc xs zH_18 n true d 18 12 ml (r.toList ++ rest) t' Q))) := by
  rw [vc_q (o := (37, 0, 172, 2, [])) (by decide +kernel)]; rfl
theorem v_18_12 (xs : Option (List Int32)) (n : Nat) (b : Bool) (d : Nat) (ml : List Value) (t : T) (Q : Option Value → T → Prop) (st : List Value) : vc xs zH_18 (n + 1) b d 18 12 ml st t Q = vc xs zH_18 n true d 18 13 ml (.int 0 :: st) t Q := by
  rw [vc_q (o := (0, 0, 0, 0, [])) (by decide +kernel)]; rfl
theorem v_18_13 (xs : Option (List Int32)) (n : Nat) (b : Bool) (d : Nat) (ml : List Value) (t : T) (Q : Option Value → T → Prop) (v : Int32) (r : List Value) : vc xs zH_18 (n + 1) b d 18 13 ml (.int v :: r) t Q = vset ml 1 (.int v) (fun l => vc xs zH_18 n true d 18 14 l r t Q) := by
  rw [vc_q (o := (3, 0, 1, 0, [])) (by decide +kernel)]; rfl
theorem v_18_14 (xs : Option (List Int32)) (n : Nat) (d : Nat) (ml : List Value) (t : T) (Q : Option Value → T → Prop) (st : List Value) : vc xs zH_18 (n + 1) false d 18 14 ml st t Q = vgi ml 1 (fun v => vc xs zH_18 n true d 18 15 ml (.int v :: st) t Q) := by
  rw [vc_q (o := (1, 0, 1, 0, [])) (by decide +kernel)]; rfl
theorem h_18_14 (xs : Option (List Int32)) (n d : Nat) (ml st : List Value) (t : T) (Q : Option Value → T → Prop) : vc xs zH_18 (n + 1) true d 18 14 ml st t Q = twp xs d 18 14 ml st t Q := id rfl
theorem v_18_15 (xs : Option (List Int32)) (n : Nat) (b : Bool) (d : Nat) (ml : List Value) (t : T) (Q : Option Value → T → Prop) (st : List Value) : vc xs zH_18 (n + 1) b d 18 15 ml st t Q = vc xs zH_18 n true d 18 17 ml (.int 48 :: st) t Q := by
  rw [vc_q (o := (0, 48, 1, 0, [])) (by decide +kernel)]; rfl
theorem v_18_17 (xs : Option (List Int32)) (n : Nat) (b : Bool) (d : Nat) (ml : List Value) (t : T) (Q : Option Value → T → Prop) (u v : Int32) (r : List Value) : vc xs zH_18 (n + 1) b d 18 17 ml (.int v :: .int u :: r) t Q = (if v < u then vc xs zH_18 n true d 18 51 ml r t Q else vc xs zH_18 n true d 18 20 ml r t Q) := by
  rw [vc_q (o := (20, 0, 51, 4, [])) (by decide +kernel)]; rfl
theorem v_18_20 (xs : Option (List Int32)) (n : Nat) (b : Bool) (d : Nat) (ml : List Value) (t : T) (Q : Option Value → T → Prop) (st : List Value) : vc xs zH_18 (n + 1) b d 18 20 ml st t Q = vga ml 0 (fun v => vc xs zH_18 n true d 18 21 ml (.ref v :: st) t Q) := by
  rw [vc_q (o := (2, 0, 0, 0, [])) (by decide +kernel)]; rfl
theorem v_18_21 (xs : Option (List Int32)) (n : Nat) (b : Bool) (d : Nat) (ml : List Value) (t : T) (Q : Option Value → T → Prop) (st : List Value) : vc xs zH_18 (n + 1) b d 18 21 ml st t Q = (st.all zc1 = true ∧ vtk 1 st [] (fun as rest => rest.length ≤ 8 ∧ vrc as 0 (twc d 28 as t (fun r t' => vc xs zH_18 n true d 18 24 ml (r.toList ++ rest) t' Q)))) := by
  rw [vc_q (o := (36, 0, 28, 0, [(0, 0)])) (by decide +kernel)]; rfl
theorem v_18_24 (xs : Option (List Int32)) (n : Nat) (b : Bool) (d : Nat) (ml : List Value) (t : T) (Q : Option Value → T → Prop) (v : Int32) (r : List Value) : vc xs zH_18 (n + 1) b d 18 24 ml (.int v :: r) t Q = vset ml 2 (.int v) (fun l => vc xs zH_18 n true d 18 25 l r t Q) := by
  rw [vc_q (o := (3, 0, 2, 0, [])) (by decide +kernel)]; rfl
theorem v_18_25 (xs : Option (List Int32)) (n : Nat) (b : Bool) (d : Nat) (ml : List Value) (t : T) (Q : Option Value → T → Prop) (st : List Value) : vc xs zH_18 (n + 1) b d 18 25 ml st t Q = vgi ml 2 (fun v => vc xs zH_18 n true d 18 26 ml (.int v :: st) t Q) := by
  rw [vc_q (o := (1, 0, 2, 0, [])) (by decide +kernel)]; rfl
theorem v_18_26 (xs : Option (List Int32)) (n : Nat) (b : Bool) (d : Nat) (ml : List Value) (t : T) (Q : Option Value → T → Prop) (u : Int32) (r : List Value) : vc xs zH_18 (n + 1) b d 18 26 ml (.int u :: r) t Q = (if u < 0 then vc xs zH_18 n true d 18 29 ml r t Q else vc xs zH_18 n true d 18 34 ml r t Q) := by
  rw [vc_q (o := (21, 0, 34, 3, [])) (by decide +kernel)]; rfl
theorem v_18_29 (xs : Option (List Int32)) (n : Nat) (b : Bool) (d : Nat) (ml : List Value) (t : T) (Q : Option Value → T → Prop) (st : List Value) : vc xs zH_18 (n + 1) b d 18 29 ml st t Q = vga ml 0 (fun v => vc xs zH_18 n true d 18 30 ml (.ref v :: st) t Q) := by
  rw [vc_q (o := (2, 0, 0, 0, [])) (by decide +kernel)]; rfl
theorem v_18_30 (xs : Option (List Int32)) (n : Nat) (b : Bool) (d : Nat) (ml : List Value) (t : T) (Q : Option Value → T → Prop) (st : List Value) : vc xs zH_18 (n + 1) b d 18 30 ml st t Q = (st.all zc1 = true ∧ vtk 1 st [] (fun as rest => rest.length ≤ 8 ∧ vrc as 0 (twc d 31 as t (fun r t' => vc xs zH_18 n true d 18 33 ml (r.toList ++ rest) t' Q)))) := by
  rw [vc_q (o := (36, 0, 31, 0, [(0, 0)])) (by decide +kernel)]; rfl
theorem v_18_33 (xs : Option (List Int32)) (n : Nat) (b : Bool) (d : Nat) (ml : List Value) (t : T) (Q : Option Value → T → Prop) (v : Int32) : vc xs zH_18 (n + 1) b d 18 33 ml [.int v] t Q = Q (some (.int v)) t := by
  rw [vc_q (o := (40, 0, 0, 0, [])) (by decide +kernel)]; rfl
theorem v_18_34 (xs : Option (List Int32)) (n : Nat) (b : Bool) (d : Nat) (ml : List Value) (t : T) (Q : Option Value → T → Prop) (st : List Value) : vc xs zH_18 (n + 1) b d 18 34 ml st t Q = vga ml 0 (fun v => vc xs zH_18 n true d 18 35 ml (.ref v :: st) t Q) := by
  rw [vc_q (o := (2, 0, 0, 0, [])) (by decide +kernel)]; rfl
theorem v_18_35 (xs : Option (List Int32)) (n : Nat) (b : Bool) (d : Nat) (ml : List Value) (t : T) (Q : Option Value → T → Prop) (st : List Value) : vc xs zH_18 (n + 1) b d 18 35 ml st t Q = vgi ml 2 (fun v => vc xs zH_18 n true d 18 36 ml (.int v :: st) t Q) := by
  rw [vc_q (o := (1, 0, 2, 0, [])) (by decide +kernel)]; rfl
theorem v_18_36 (xs : Option (List Int32)) (n : Nat) (b : Bool) (d : Nat) (ml : List Value) (t : T) (Q : Option Value → T → Prop) (st : List Value) : vc xs zH_18 (n + 1) b d 18 36 ml st t Q = (st.all zc1 = true ∧ vtk 2 st [] (fun as rest => rest.length ≤ 8 ∧ vrc as 0 (twc d 29 as t (fun r t' => vc xs zH_18 n true d 18 39 ml (r.toList ++ rest) t' Q)))) := by
  rw [vc_q (o := (36, 0, 29, 1, [(0, 0)])) (by decide +kernel)]; rfl
theorem v_18_39 (xs : Option (List Int32)) (n : Nat) (b : Bool) (d : Nat) (ml : List Value) (t : T) (Q : Option Value → T → Prop) (u : Int32) (r : List Value) : vc xs zH_18 (n + 1) b d 18 39 ml (.int u :: r) t Q = (if u = 0 then vc xs zH_18 n true d 18 42 ml r t Q else vc xs zH_18 n true d 18 45 ml r t Q) := by
  rw [vc_q (o := (21, 0, 45, 1, [])) (by decide +kernel)]; rfl
theorem v_18_42 (xs : Option (List Int32)) (n : Nat) (b : Bool) (d : Nat) (ml : List Value) (t : T) (Q : Option Value → T → Prop) (st : List Value) : vc xs zH_18 (n + 1) b d 18 42 ml st t Q = vc xs zH_18 n true d 18 51 ml st t Q := by
  rw [vc_q (o := (22, 0, 51, 0, [])) (by decide +kernel)]; rfl
theorem v_18_45 (xs : Option (List Int32)) (n : Nat) (b : Bool) (d : Nat) (ml : List Value) (t : T) (Q : Option Value → T → Prop) (st : List Value) : vc xs zH_18 (n + 1) b d 18 45 ml st t Q = vgi ml 1 (fun v => vset ml 1 (.int (v + 1)) (fun l => vc xs zH_18 n true d 18 48 l st t Q)) := by
  rw [vc_q (o := (5, 1, 1, 0, [])) (by decide +kernel)]; rfl
theorem v_18_48 (xs : Option (List Int32)) (n : Nat) (b : Bool) (d : Nat) (ml : List Value) (t : T) (Q : Option Value → T → Prop) (st : List Value) : vc xs zH_18 (n + 1) b d 18 48 ml st t Q = vc xs zH_18 n true d 18 14 ml st t Q := by
  rw [vc_q (o := (22, 0, 14, 0, [])) (by decide +kernel)]; rfl
theorem v_18_51 (xs : Option (List Int32)) (n : Nat) (b : Bool) (d : Nat) (ml : List Value) (t : T) (Q : Option Value → T → Prop) (st : List Value) : vc xs zH_18 (n + 1) b d 18 51 ml st t Q = vga ml 0 (fun v => vc xs zH_18 n true d 18 52 ml (.ref v :: st) t Q) := by
  rw [vc_q (o := (2, 0, 0, 0, [])) (by decide +kernel)]; rfl
theorem v_18_52 (xs : Option (List Int32)) (n : Nat) (b : Bool) (d : Nat) (ml : List Value) (t : T) (Q : Option Value → T → Prop) (st : List Value) : vc xs zH_18 (n + 1) b d 18 52 ml st t Q = (st.all zc1 = true ∧ vtk 1 st [] (fun as rest => rest.length ≤ 8 ∧ vrc as 0 (twc d 27 as t (fun r t' => vc xs zH_18 n true d 18 55 ml (r.toList ++ rest) t' Q)))) := by
  rw [vc_q (o := (36, 0, 27, 0, [(0, 0)])) (by decide +kernel)]; rfl
theorem v_18_55 (xs : Option (List Int32)) (n : Nat) (b : Bool) (d : Nat) (ml : List Value) (t : T) (Q : Option Value → T → Prop) (st : List Value) : vc xs zH_18 (n + 1) b d 18 55 ml st t Q = vc xs zH_18 n true d 18 57 ml (.int (-3) :: st) t Q := by
  rw [vc_q (o := (0, (-3), 1, 0, [])) (by decide +kernel)]; rfl
theorem v_18_57 (xs : Option (List Int32)) (n : Nat) (b : Bool) (d : Nat) (ml : List Value) (t : T) (Q : Option Value → T → Prop) (v : Int32) : vc xs zH_18 (n + 1) b d 18 57 ml [.int v] t Q = Q (some (.int v)) t := by
  rw [vc_q (o := (40, 0, 0, 0, [])) (by decide +kernel)]; rfl
def zH_19 : List Nat := []
theorem v_19_0 (xs : Option (List Int32)) (n : Nat) (b : Bool) (d : Nat) (ml : List Value) (t : T) (Q : Option Value → T → Prop) (st : List Value) : vc xs zH_19 (n + 1) b d 19 0 ml st t Q = vgi ml 1 (fun v => vc xs zH_19 n true d 19 1 ml (.int v :: st) t Q) := by
  rw [vc_q (o := (1, 0, 1, 0, [])) (by decide +kernel)]; rfl
theorem v_19_1 (xs : Option (List Int32)) (n : Nat) (b : Bool) (d : Nat) (ml : List Value) (t : T) (Q : Option Value → T → Prop) (st : List Value) : vc xs zH_19 (n + 1) b d 19 1 ml st t Q = vc xs zH_19 n true d 19 2 ml (.int 4 :: st) t Q := by
  rw [vc_q (o := (0, 4, 0, 0, [])) (by decide +kernel)]; rfl
theorem v_19_2 (xs : Option (List Int32)) (n : Nat) (b : Bool) (d : Nat) (ml : List Value) (t : T) (Q : Option Value → T → Prop) (st : List Value) : vc xs zH_19 (n + 1) b d 19 2 ml st t Q = (st.all zc1 = true ∧ vtk 2 st [] (fun as rest => rest.length ≤ 8 ∧ twc d 22 as t (fun r t' => vc xs zH_19 n true d 19 5 ml (r.toList ++ rest) t' Q))) := by
  rw [vc_q (o := (37, 0, 22, 2, [])) (by decide +kernel)]; rfl
theorem v_19_5 (xs : Option (List Int32)) (n : Nat) (b : Bool) (d : Nat) (ml : List Value) (t : T) (Q : Option Value → T → Prop) (u : Int32) (r : List Value) : vc xs zH_19 (n + 1) b d 19 5 ml (.int u :: r) t Q = (if u = 0 then vc xs zH_19 n true d 19 20 ml r t Q else vc xs zH_19 n true d 19 8 ml r t Q) := by
  rw [vc_q (o := (21, 0, 20, 0, [])) (by decide +kernel)]; rfl
theorem v_19_8 (xs : Option (List Int32)) (n : Nat) (b : Bool) (d : Nat) (ml : List Value) (t : T) (Q : Option Value → T → Prop) (st : List Value) : vc xs zH_19 (n + 1) b d 19 8 ml st t Q = vga ml 0 (fun v => vc xs zH_19 n true d 19 9 ml (.ref v :: st) t Q) := by
  rw [vc_q (o := (2, 0, 0, 0, [])) (by decide +kernel)]; rfl
theorem v_19_9 (xs : Option (List Int32)) (n : Nat) (b : Bool) (d : Nat) (ml : List Value) (t : T) (Q : Option Value → T → Prop) (u : Nat) (r : List Value) : vc xs zH_19 (n + 1) b d 19 9 ml (.ref u :: r) t Q = (vtag u = 0 ∧ vc xs zH_19 n true d 19 12 ml (.ref (tref t u 9) :: r) t Q) := by
  rw [vc_q (o := (25, 0, 0, 9, [])) (by decide +kernel)]; rfl
theorem v_19_12 (xs : Option (List Int32)) (n : Nat) (b : Bool) (d : Nat) (ml : List Value) (t : T) (Q : Option Value → T → Prop) (st : List Value) : vc xs zH_19 (n + 1) b d 19 12 ml st t Q = vgi ml 1 (fun v => vc xs zH_19 n true d 19 13 ml (.int v :: st) t Q) := by
  rw [vc_q (o := (1, 0, 1, 0, [])) (by decide +kernel)]; rfl
theorem v_19_13 (xs : Option (List Int32)) (n : Nat) (b : Bool) (d : Nat) (ml : List Value) (t : T) (Q : Option Value → T → Prop) (v : Int32) (u : Nat) (r : List Value) : vc xs zH_19 (n + 1) b d 19 13 ml (.int v :: .ref u :: r) t Q = (103 ≤ vtag u ∧ vtag u < 108 ∧ vinb v (vlen u) ∧ vc xs zH_19 n true d 19 14 ml (.ref (tref t u v.toNatClampNeg) :: r) t Q) := by
  rw [vc_q (o := (31, 0, 0, 0, [])) (by decide +kernel)]; rfl
theorem v_19_14 (xs : Option (List Int32)) (n : Nat) (b : Bool) (d : Nat) (ml : List Value) (t : T) (Q : Option Value → T → Prop) (u : Nat) (r : List Value) : vc xs zH_19 (n + 1) b d 19 14 ml (.ref u :: r) t Q = (vtag u = 8 ∧ vc xs zH_19 n true d 19 17 ml (.int (t.1 u 1) :: r) t Q) := by
  rw [vc_q (o := (24, 0, 8, 1, [])) (by decide +kernel)]; rfl
theorem v_19_17 (xs : Option (List Int32)) (n : Nat) (b : Bool) (d : Nat) (ml : List Value) (t : T) (Q : Option Value → T → Prop) (st : List Value) : vc xs zH_19 (n + 1) b d 19 17 ml st t Q = vc xs zH_19 n true d 19 21 ml st t Q := by
  rw [vc_q (o := (22, 0, 21, 0, [])) (by decide +kernel)]; rfl
theorem v_19_20 (xs : Option (List Int32)) (n : Nat) (b : Bool) (d : Nat) (ml : List Value) (t : T) (Q : Option Value → T → Prop) (st : List Value) : vc xs zH_19 (n + 1) b d 19 20 ml st t Q = vc xs zH_19 n true d 19 21 ml (.int (-1) :: st) t Q := by
  rw [vc_q (o := (0, (-1), 0, 0, [])) (by decide +kernel)]; rfl
theorem v_19_21 (xs : Option (List Int32)) (n : Nat) (b : Bool) (d : Nat) (ml : List Value) (t : T) (Q : Option Value → T → Prop) (v : Int32) : vc xs zH_19 (n + 1) b d 19 21 ml [.int v] t Q = Q (some (.int v)) t := by
  rw [vc_q (o := (40, 0, 0, 0, [])) (by decide +kernel)]; rfl
def zH_20 : List Nat := []
theorem v_20_0 (xs : Option (List Int32)) (n : Nat) (b : Bool) (d : Nat) (ml : List Value) (t : T) (Q : Option Value → T → Prop) (st : List Value) : vc xs zH_20 (n + 1) b d 20 0 ml st t Q = vgi ml 1 (fun v => vc xs zH_20 n true d 20 1 ml (.int v :: st) t Q) := by
  rw [vc_q (o := (1, 0, 1, 0, [])) (by decide +kernel)]; rfl
theorem v_20_1 (xs : Option (List Int32)) (n : Nat) (b : Bool) (d : Nat) (ml : List Value) (t : T) (Q : Option Value → T → Prop) (st : List Value) : vc xs zH_20 (n + 1) b d 20 1 ml st t Q = vc xs zH_20 n true d 20 2 ml (.int 4 :: st) t Q := by
  rw [vc_q (o := (0, 4, 0, 0, [])) (by decide +kernel)]; rfl
theorem v_20_2 (xs : Option (List Int32)) (n : Nat) (b : Bool) (d : Nat) (ml : List Value) (t : T) (Q : Option Value → T → Prop) (st : List Value) : vc xs zH_20 (n + 1) b d 20 2 ml st t Q = (st.all zc1 = true ∧ vtk 2 st [] (fun as rest => rest.length ≤ 8 ∧ twc d 22 as t (fun r t' => vc xs zH_20 n true d 20 5 ml (r.toList ++ rest) t' Q))) := by
  rw [vc_q (o := (37, 0, 22, 2, [])) (by decide +kernel)]; rfl
theorem v_20_5 (xs : Option (List Int32)) (n : Nat) (b : Bool) (d : Nat) (ml : List Value) (t : T) (Q : Option Value → T → Prop) (u : Int32) (r : List Value) : vc xs zH_20 (n + 1) b d 20 5 ml (.int u :: r) t Q = (if u = 0 then vc xs zH_20 n true d 20 27 ml r t Q else vc xs zH_20 n true d 20 8 ml r t Q) := by
  rw [vc_q (o := (21, 0, 27, 0, [])) (by decide +kernel)]; rfl
theorem v_20_8 (xs : Option (List Int32)) (n : Nat) (b : Bool) (d : Nat) (ml : List Value) (t : T) (Q : Option Value → T → Prop) (st : List Value) : vc xs zH_20 (n + 1) b d 20 8 ml st t Q = vga ml 0 (fun v => vc xs zH_20 n true d 20 9 ml (.ref v :: st) t Q) := by
  rw [vc_q (o := (2, 0, 0, 0, [])) (by decide +kernel)]; rfl
theorem v_20_9 (xs : Option (List Int32)) (n : Nat) (b : Bool) (d : Nat) (ml : List Value) (t : T) (Q : Option Value → T → Prop) (st : List Value) : vc xs zH_20 (n + 1) b d 20 9 ml st t Q = vga ml 0 (fun v => vc xs zH_20 n true d 20 10 ml (.ref v :: st) t Q) := by
  rw [vc_q (o := (2, 0, 0, 0, [])) (by decide +kernel)]; rfl
theorem v_20_10 (xs : Option (List Int32)) (n : Nat) (b : Bool) (d : Nat) (ml : List Value) (t : T) (Q : Option Value → T → Prop) (u : Nat) (r : List Value) : vc xs zH_20 (n + 1) b d 20 10 ml (.ref u :: r) t Q = (vtag u = 0 ∧ vc xs zH_20 n true d 20 13 ml (.ref (tref t u 9) :: r) t Q) := by
  rw [vc_q (o := (25, 0, 0, 9, [])) (by decide +kernel)]; rfl
theorem v_20_13 (xs : Option (List Int32)) (n : Nat) (b : Bool) (d : Nat) (ml : List Value) (t : T) (Q : Option Value → T → Prop) (st : List Value) : vc xs zH_20 (n + 1) b d 20 13 ml st t Q = vgi ml 1 (fun v => vc xs zH_20 n true d 20 14 ml (.int v :: st) t Q) := by
  rw [vc_q (o := (1, 0, 1, 0, [])) (by decide +kernel)]; rfl
theorem v_20_14 (xs : Option (List Int32)) (n : Nat) (b : Bool) (d : Nat) (ml : List Value) (t : T) (Q : Option Value → T → Prop) (v : Int32) (u : Nat) (r : List Value) : vc xs zH_20 (n + 1) b d 20 14 ml (.int v :: .ref u :: r) t Q = (103 ≤ vtag u ∧ vtag u < 108 ∧ vinb v (vlen u) ∧ vc xs zH_20 n true d 20 15 ml (.ref (tref t u v.toNatClampNeg) :: r) t Q) := by
  rw [vc_q (o := (31, 0, 0, 0, [])) (by decide +kernel)]; rfl
theorem v_20_15 (xs : Option (List Int32)) (n : Nat) (b : Bool) (d : Nat) (ml : List Value) (t : T) (Q : Option Value → T → Prop) (st : List Value) : vc xs zH_20 (n + 1) b d 20 15 ml st t Q = vgi ml 2 (fun v => vc xs zH_20 n true d 20 16 ml (.int v :: st) t Q) := by
  rw [vc_q (o := (1, 0, 2, 0, [])) (by decide +kernel)]; rfl
theorem v_20_16 (xs : Option (List Int32)) (n : Nat) (b : Bool) (d : Nat) (ml : List Value) (t : T) (Q : Option Value → T → Prop) (st : List Value) : vc xs zH_20 (n + 1) b d 20 16 ml st t Q = vgi ml 3 (fun v => vc xs zH_20 n true d 20 17 ml (.int v :: st) t Q) := by
  rw [vc_q (o := (1, 0, 3, 0, [])) (by decide +kernel)]; rfl
theorem v_20_17 (xs : Option (List Int32)) (n : Nat) (b : Bool) (d : Nat) (ml : List Value) (t : T) (Q : Option Value → T → Prop) (st : List Value) : vc xs zH_20 (n + 1) b d 20 17 ml st t Q = (st.all zc1 = true ∧ vtk 4 st [] (fun as rest => rest.length ≤ 8 ∧ vrc as 0 (twc d 26 as t (fun r t' => vc xs zH_20 n true d 20 20 ml (r.toList ++ rest) t' Q)))) := by
  rw [vc_q (o := (36, 0, 26, 3, [(0, 0)])) (by decide +kernel)]; rfl
theorem v_20_20 (xs : Option (List Int32)) (n : Nat) (b : Bool) (d : Nat) (ml : List Value) (t : T) (Q : Option Value → T → Prop) (u : Int32) (r : List Value) : vc xs zH_20 (n + 1) b d 20 20 ml (.int u :: r) t Q = (if u = 0 then vc xs zH_20 n true d 20 27 ml r t Q else vc xs zH_20 n true d 20 23 ml r t Q) := by
  rw [vc_q (o := (21, 0, 27, 0, [])) (by decide +kernel)]; rfl
theorem v_20_23 (xs : Option (List Int32)) (n : Nat) (b : Bool) (d : Nat) (ml : List Value) (t : T) (Q : Option Value → T → Prop) (st : List Value) : vc xs zH_20 (n + 1) b d 20 23 ml st t Q = vc xs zH_20 n true d 20 24 ml (.int 1 :: st) t Q := by
  rw [vc_q (o := (0, 1, 0, 0, [])) (by decide +kernel)]; rfl
theorem v_20_24 (xs : Option (List Int32)) (n : Nat) (b : Bool) (d : Nat) (ml : List Value) (t : T) (Q : Option Value → T → Prop) (st : List Value) : vc xs zH_20 (n + 1) b d 20 24 ml st t Q = vc xs zH_20 n true d 20 28 ml st t Q := by
  rw [vc_q (o := (22, 0, 28, 0, [])) (by decide +kernel)]; rfl
theorem v_20_27 (xs : Option (List Int32)) (n : Nat) (b : Bool) (d : Nat) (ml : List Value) (t : T) (Q : Option Value → T → Prop) (st : List Value) : vc xs zH_20 (n + 1) b d 20 27 ml st t Q = vc xs zH_20 n true d 20 28 ml (.int 0 :: st) t Q := by
  rw [vc_q (o := (0, 0, 0, 0, [])) (by decide +kernel)]; rfl
theorem v_20_28 (xs : Option (List Int32)) (n : Nat) (b : Bool) (d : Nat) (ml : List Value) (t : T) (Q : Option Value → T → Prop) (v : Int32) : vc xs zH_20 (n + 1) b d 20 28 ml [.int v] t Q = ((v = 0 ∨ v = 1) ∧ Q (some (.int v)) t) := by
  rw [vc_q (o := (41, 0, 0, 0, [])) (by decide +kernel)]; rfl
def zH_21 : List Nat := [59]
theorem v_21_0 (xs : Option (List Int32)) (n : Nat) (b : Bool) (d : Nat) (ml : List Value) (t : T) (Q : Option Value → T → Prop) (st : List Value) : vc xs zH_21 (n + 1) b d 21 0 ml st t Q = vgi ml 1 (fun v => vc xs zH_21 n true d 21 1 ml (.int v :: st) t Q) := by
  rw [vc_q (o := (1, 0, 1, 0, [])) (by decide +kernel)]; rfl
theorem v_21_1 (xs : Option (List Int32)) (n : Nat) (b : Bool) (d : Nat) (ml : List Value) (t : T) (Q : Option Value → T → Prop) (st : List Value) : vc xs zH_21 (n + 1) b d 21 1 ml st t Q = vc xs zH_21 n true d 21 2 ml (.int 4 :: st) t Q := by
  rw [vc_q (o := (0, 4, 0, 0, [])) (by decide +kernel)]; rfl
theorem v_21_2 (xs : Option (List Int32)) (n : Nat) (b : Bool) (d : Nat) (ml : List Value) (t : T) (Q : Option Value → T → Prop) (st : List Value) : vc xs zH_21 (n + 1) b d 21 2 ml st t Q = (st.all zc1 = true ∧ vtk 2 st [] (fun as rest => rest.length ≤ 8 ∧ twc d 22 as t (fun r t' => vc xs zH_21 n true d 21 5 ml (r.toList ++ rest) t' Q))) := by
  rw [vc_q (o := (37, 0, 22, 2, [])) (by decide +kernel)]; rfl
theorem v_21_5 (xs : Option (List Int32)) (n : Nat) (b : Bool) (d : Nat) (ml : List Value) (t : T) (Q : Option Value → T → Prop) (u : Int32) (r : List Value) : vc xs zH_21 (n + 1) b d 21 5 ml (.int u :: r) t Q = (if u = 0 then vc xs zH_21 n true d 21 20 ml r t Q else vc xs zH_21 n true d 21 8 ml r t Q) := by
  rw [vc_q (o := (21, 0, 20, 0, [])) (by decide +kernel)]; rfl
theorem v_21_8 (xs : Option (List Int32)) (n : Nat) (b : Bool) (d : Nat) (ml : List Value) (t : T) (Q : Option Value → T → Prop) (st : List Value) : vc xs zH_21 (n + 1) b d 21 8 ml st t Q = vga ml 0 (fun v => vc xs zH_21 n true d 21 9 ml (.ref v :: st) t Q) := by
  rw [vc_q (o := (2, 0, 0, 0, [])) (by decide +kernel)]; rfl
theorem v_21_9 (xs : Option (List Int32)) (n : Nat) (b : Bool) (d : Nat) (ml : List Value) (t : T) (Q : Option Value → T → Prop) (u : Nat) (r : List Value) : vc xs zH_21 (n + 1) b d 21 9 ml (.ref u :: r) t Q = (vtag u = 0 ∧ vc xs zH_21 n true d 21 12 ml (.ref (tref t u 1) :: r) t Q) := by
  rw [vc_q (o := (25, 0, 0, 1, [])) (by decide +kernel)]; rfl
theorem v_21_12 (xs : Option (List Int32)) (n : Nat) (b : Bool) (d : Nat) (ml : List Value) (t : T) (Q : Option Value → T → Prop) (st : List Value) : vc xs zH_21 (n + 1) b d 21 12 ml st t Q = vgi ml 2 (fun v => vc xs zH_21 n true d 21 13 ml (.int v :: st) t Q) := by
  rw [vc_q (o := (1, 0, 2, 0, [])) (by decide +kernel)]; rfl
theorem v_21_13 (xs : Option (List Int32)) (n : Nat) (b : Bool) (d : Nat) (ml : List Value) (t : T) (Q : Option Value → T → Prop) (st : List Value) : vc xs zH_21 (n + 1) b d 21 13 ml st t Q = vc xs zH_21 n true d 21 14 ml (.int 0 :: st) t Q := by
  rw [vc_q (o := (0, 0, 0, 0, [])) (by decide +kernel)]; rfl
theorem v_21_14 (xs : Option (List Int32)) (n : Nat) (b : Bool) (d : Nat) (ml : List Value) (t : T) (Q : Option Value → T → Prop) (st : List Value) : vc xs zH_21 (n + 1) b d 21 14 ml st t Q = (st.all zc1 = true ∧ vtk 3 st [] (fun as rest => rest.length ≤ 8 ∧ vrc as 1 (twc d 134 as t (fun r t' => vc xs zH_21 n true d 21 17 ml (r.toList ++ rest) t' Q)))) := by
  rw [vc_q (o := (36, 0, 134, 2, [(0, 1)])) (by decide +kernel)]; rfl
theorem v_21_17 (xs : Option (List Int32)) (n : Nat) (b : Bool) (d : Nat) (ml : List Value) (t : T) (Q : Option Value → T → Prop) (u : Int32) (r : List Value) : vc xs zH_21 (n + 1) b d 21 17 ml (.int u :: r) t Q = (if u = 0 then vc xs zH_21 n true d 21 20 ml r t Q else vc xs zH_21 n true d 21 22 ml r t Q) := by
  rw [vc_q (o := (21, 0, 22, 1, [])) (by decide +kernel)]; rfl
theorem v_21_20 (xs : Option (List Int32)) (n : Nat) (b : Bool) (d : Nat) (ml : List Value) (t : T) (Q : Option Value → T → Prop) (st : List Value) : vc xs zH_21 (n + 1) b d 21 20 ml st t Q = vc xs zH_21 n true d 21 21 ml (.int (-1) :: st) t Q := by
  rw [vc_q (o := (0, (-1), 0, 0, [])) (by decide +kernel)]; rfl
theorem v_21_21 (xs : Option (List Int32)) (n : Nat) (b : Bool) (d : Nat) (ml : List Value) (t : T) (Q : Option Value → T → Prop) (v : Int32) : vc xs zH_21 (n + 1) b d 21 21 ml [.int v] t Q = Q (some (.int v)) t := by
  rw [vc_q (o := (40, 0, 0, 0, [])) (by decide +kernel)]; rfl
theorem v_21_22 (xs : Option (List Int32)) (n : Nat) (b : Bool) (d : Nat) (ml : List Value) (t : T) (Q : Option Value → T → Prop) (st : List Value) : vc xs zH_21 (n + 1) b d 21 22 ml st t Q = vga ml 0 (fun v => vc xs zH_21 n true d 21 23 ml (.ref v :: st) t Q) := by
  rw [vc_q (o := (2, 0, 0, 0, [])) (by decide +kernel)]; rfl
theorem v_21_23 (xs : Option (List Int32)) (n : Nat) (b : Bool) (d : Nat) (ml : List Value) (t : T) (Q : Option Value → T → Prop) (u : Nat) (r : List Value) : vc xs zH_21 (n + 1) b d 21 23 ml (.ref u :: r) t Q = (vtag u = 0 ∧ vc xs zH_21 n true d 21 26 ml (.ref (tref t u 9) :: r) t Q) := by
  rw [vc_q (o := (25, 0, 0, 9, [])) (by decide +kernel)]; rfl
theorem v_21_26 (xs : Option (List Int32)) (n : Nat) (b : Bool) (d : Nat) (ml : List Value) (t : T) (Q : Option Value → T → Prop) (st : List Value) : vc xs zH_21 (n + 1) b d 21 26 ml st t Q = vgi ml 1 (fun v => vc xs zH_21 n true d 21 27 ml (.int v :: st) t Q) := by
  rw [vc_q (o := (1, 0, 1, 0, [])) (by decide +kernel)]; rfl
theorem v_21_27 (xs : Option (List Int32)) (n : Nat) (b : Bool) (d : Nat) (ml : List Value) (t : T) (Q : Option Value → T → Prop) (v : Int32) (u : Nat) (r : List Value) : vc xs zH_21 (n + 1) b d 21 27 ml (.int v :: .ref u :: r) t Q = (103 ≤ vtag u ∧ vtag u < 108 ∧ vinb v (vlen u) ∧ vc xs zH_21 n true d 21 28 ml (.ref (tref t u v.toNatClampNeg) :: r) t Q) := by
  rw [vc_q (o := (31, 0, 0, 0, [])) (by decide +kernel)]; rfl
theorem v_21_28 (xs : Option (List Int32)) (n : Nat) (b : Bool) (d : Nat) (ml : List Value) (t : T) (Q : Option Value → T → Prop) (v : Nat) (r : List Value) : vc xs zH_21 (n + 1) b d 21 28 ml (.ref v :: r) t Q = vset ml 3 (.ref v) (fun l => vc xs zH_21 n true d 21 29 l r t Q) := by
  rw [vc_q (o := (4, 0, 3, 0, [])) (by decide +kernel)]; rfl
theorem v_21_29 (xs : Option (List Int32)) (n : Nat) (b : Bool) (d : Nat) (ml : List Value) (t : T) (Q : Option Value → T → Prop) (st : List Value) : vc xs zH_21 (n + 1) b d 21 29 ml st t Q = vga ml 3 (fun v => vc xs zH_21 n true d 21 30 ml (.ref v :: st) t Q) := by
  rw [vc_q (o := (2, 0, 3, 0, [])) (by decide +kernel)]; rfl
theorem v_21_30 (xs : Option (List Int32)) (n : Nat) (b : Bool) (d : Nat) (ml : List Value) (t : T) (Q : Option Value → T → Prop) (u : Nat) (r : List Value) : vc xs zH_21 (n + 1) b d 21 30 ml (.ref u :: r) t Q = (vtag u = 8 ∧ vc xs zH_21 n true d 21 33 ml (.int (t.1 u 1) :: r) t Q) := by
  rw [vc_q (o := (24, 0, 8, 1, [])) (by decide +kernel)]; rfl
theorem v_21_33 (xs : Option (List Int32)) (n : Nat) (b : Bool) (d : Nat) (ml : List Value) (t : T) (Q : Option Value → T → Prop) (u : Int32) (r : List Value) : vc xs zH_21 (n + 1) b d 21 33 ml (.int u :: r) t Q = (if u = 0 then vc xs zH_21 n true d 21 36 ml r t Q else vc xs zH_21 n true d 21 38 ml r t Q) := by
  rw [vc_q (o := (21, 0, 38, 1, [])) (by decide +kernel)]; rfl
theorem v_21_36 (xs : Option (List Int32)) (n : Nat) (b : Bool) (d : Nat) (ml : List Value) (t : T) (Q : Option Value → T → Prop) (st : List Value) : vc xs zH_21 (n + 1) b d 21 36 ml st t Q = vc xs zH_21 n true d 21 37 ml (.int (-1) :: st) t Q := by
  rw [vc_q (o := (0, (-1), 0, 0, [])) (by decide +kernel)]; rfl
theorem v_21_37 (xs : Option (List Int32)) (n : Nat) (b : Bool) (d : Nat) (ml : List Value) (t : T) (Q : Option Value → T → Prop) (v : Int32) : vc xs zH_21 (n + 1) b d 21 37 ml [.int v] t Q = Q (some (.int v)) t := by
  rw [vc_q (o := (40, 0, 0, 0, [])) (by decide +kernel)]; rfl
theorem v_21_38 (xs : Option (List Int32)) (n : Nat) (b : Bool) (d : Nat) (ml : List Value) (t : T) (Q : Option Value → T → Prop) (st : List Value) : vc xs zH_21 (n + 1) b d 21 38 ml st t Q = vga ml 0 (fun v => vc xs zH_21 n true d 21 39 ml (.ref v :: st) t Q) := by
  rw [vc_q (o := (2, 0, 0, 0, [])) (by decide +kernel)]; rfl
theorem v_21_39 (xs : Option (List Int32)) (n : Nat) (b : Bool) (d : Nat) (ml : List Value) (t : T) (Q : Option Value → T → Prop) (u : Nat) (r : List Value) : vc xs zH_21 (n + 1) b d 21 39 ml (.ref u :: r) t Q = (vtag u = 0 ∧ vc xs zH_21 n true d 21 42 ml (.ref (tref t u 2) :: r) t Q) := by
  rw [vc_q (o := (25, 0, 0, 2, [])) (by decide +kernel)]; rfl
theorem v_21_42 (xs : Option (List Int32)) (n : Nat) (b : Bool) (d : Nat) (ml : List Value) (t : T) (Q : Option Value → T → Prop) (st : List Value) : vc xs zH_21 (n + 1) b d 21 42 ml st t Q = vga ml 3 (fun v => vc xs zH_21 n true d 21 43 ml (.ref v :: st) t Q) := by
  rw [vc_q (o := (2, 0, 3, 0, [])) (by decide +kernel)]; rfl
theorem v_21_43 (xs : Option (List Int32)) (n : Nat) (b : Bool) (d : Nat) (ml : List Value) (t : T) (Q : Option Value → T → Prop) (u : Nat) (r : List Value) : vc xs zH_21 (n + 1) b d 21 43 ml (.ref u :: r) t Q = (vtag u = 8 ∧ vc xs zH_21 n true d 21 46 ml (.ref (tref t u 0) :: r) t Q) := by
  rw [vc_q (o := (25, 0, 8, 0, [])) (by decide +kernel)]; rfl
theorem v_21_46 (xs : Option (List Int32)) (n : Nat) (b : Bool) (d : Nat) (ml : List Value) (t : T) (Q : Option Value → T → Prop) (st : List Value) : vc xs zH_21 (n + 1) b d 21 46 ml st t Q = vc xs zH_21 n true d 21 47 ml (.int 0 :: st) t Q := by
  rw [vc_q (o := (0, 0, 0, 0, [])) (by decide +kernel)]; rfl
theorem v_21_47 (xs : Option (List Int32)) (n : Nat) (b : Bool) (d : Nat) (ml : List Value) (t : T) (Q : Option Value → T → Prop) (v : Int32) (u : Nat) (r : List Value) : vc xs zH_21 (n + 1) b d 21 47 ml (.int v :: .ref u :: r) t Q = (103 ≤ vtag u ∧ vtag u < 108 ∧ vinb v (vlen u) ∧ vc xs zH_21 n true d 21 48 ml (.ref (tref t u v.toNatClampNeg) :: r) t Q) := by
  rw [vc_q (o := (31, 0, 0, 0, [])) (by decide +kernel)]; rfl
theorem v_21_48 (xs : Option (List Int32)) (n : Nat) (b : Bool) (d : Nat) (ml : List Value) (t : T) (Q : Option Value → T → Prop) (st : List Value) : vc xs zH_21 (n + 1) b d 21 48 ml st t Q = vgi ml 2 (fun v => vc xs zH_21 n true d 21 49 ml (.int v :: st) t Q) := by
  rw [vc_q (o := (1, 0, 2, 0, [])) (by decide +kernel)]; rfl
theorem v_21_49 (xs : Option (List Int32)) (n : Nat) (b : Bool) (d : Nat) (ml : List Value) (t : T) (Q : Option Value → T → Prop) (st : List Value) : vc xs zH_21 (n + 1) b d 21 49 ml st t Q = vc xs zH_21 n true d 21 50 ml (.int 0 :: st) t Q := by
  rw [vc_q (o := (0, 0, 0, 0, [])) (by decide +kernel)]; rfl
theorem v_21_50 (xs : Option (List Int32)) (n : Nat) (b : Bool) (d : Nat) (ml : List Value) (t : T) (Q : Option Value → T → Prop) (st : List Value) : vc xs zH_21 (n + 1) b d 21 50 ml st t Q = vc xs zH_21 n true d 21 51 ml (.int 0 :: st) t Q := by
  rw [vc_q (o := (0, 0, 0, 0, [])) (by decide +kernel)]; rfl
theorem v_21_51 (xs : Option (List Int32)) (n : Nat) (b : Bool) (d : Nat) (ml : List Value) (t : T) (Q : Option Value → T → Prop) (st : List Value) : vc xs zH_21 (n + 1) b d 21 51 ml st t Q = (st.all zc1 = true ∧ vtk 5 st [] (fun as rest => rest.length ≤ 8 ∧ vrc as 3 (twc d 122 as t (fun r t' => vc xs zH_21 n true d 21 54 ml (r.toList ++ rest) t' Q)))) := by
  rw [vc_q (o := (36, 0, 122, 4, [(0, 3)])) (by decide +kernel)]; rfl
theorem v_21_54 (xs : Option (List Int32)) (n : Nat) (b : Bool) (d : Nat) (ml : List Value) (t : T) (Q : Option Value → T → Prop) (v : Int32) (r : List Value) : vc xs zH_21 (n + 1) b d 21 54 ml (.int v :: r) t Q = vset ml 4 (.int v) (fun l => vc xs zH_21 n true d 21 56 l r t Q) := by
  rw [vc_q (o := (3, 0, 4, 1, [])) (by decide +kernel)]; rfl
theorem v_21_56 (xs : Option (List Int32)) (n : Nat) (b : Bool) (d : Nat) (ml : List Value) (t : T) (Q : Option Value → T → Prop) (st : List Value) : vc xs zH_21 (n + 1) b d 21 56 ml st t Q = vc xs zH_21 n true d 21 57 ml (.int 1 :: st) t Q := by
  rw [vc_q (o := (0, 1, 0, 0, [])) (by decide +kernel)]; rfl
theorem v_21_57 (xs : Option (List Int32)) (n : Nat) (b : Bool) (d : Nat) (ml : List Value) (t : T) (Q : Option Value → T → Prop) (v : Int32) (r : List Value) : vc xs zH_21 (n + 1) b d 21 57 ml (.int v :: r) t Q = vset ml 5 (.int v) (fun l => vc xs zH_21 n true d 21 59 l r t Q) := by
  rw [vc_q (o := (3, 0, 5, 1, [])) (by decide +kernel)]; rfl
theorem v_21_59 (xs : Option (List Int32)) (n : Nat) (d : Nat) (ml : List Value) (t : T) (Q : Option Value → T → Prop) (st : List Value) : vc xs zH_21 (n + 1) false d 21 59 ml st t Q = vgi ml 5 (fun v => vc xs zH_21 n true d 21 61 ml (.int v :: st) t Q) := by
  rw [vc_q (o := (1, 0, 5, 1, [])) (by decide +kernel)]; rfl
theorem h_21_59 (xs : Option (List Int32)) (n d : Nat) (ml st : List Value) (t : T) (Q : Option Value → T → Prop) : vc xs zH_21 (n + 1) true d 21 59 ml st t Q = twp xs d 21 59 ml st t Q := id rfl
theorem v_21_61 (xs : Option (List Int32)) (n : Nat) (b : Bool) (d : Nat) (ml : List Value) (t : T) (Q : Option Value → T → Prop) (st : List Value) : vc xs zH_21 (n + 1) b d 21 61 ml st t Q = vga ml 3 (fun v => vc xs zH_21 n true d 21 62 ml (.ref v :: st) t Q) := by
  rw [vc_q (o := (2, 0, 3, 0, [])) (by decide +kernel)]; rfl
theorem v_21_62 (xs : Option (List Int32)) (n : Nat) (b : Bool) (d : Nat) (ml : List Value) (t : T) (Q : Option Value → T → Prop) (u : Nat) (r : List Value) : vc xs zH_21 (n + 1) b d 21 62 ml (.ref u :: r) t Q = (vtag u = 8 ∧ vc xs zH_21 n true d 21 65 ml (.int (t.1 u 1) :: r) t Q) := by
  rw [vc_q (o := (24, 0, 8, 1, [])) (by decide +kernel)]; rfl
theorem v_21_65 (xs : Option (List Int32)) (n : Nat) (b : Bool) (d : Nat) (ml : List Value) (t : T) (Q : Option Value → T → Prop) (u v : Int32) (r : List Value) : vc xs zH_21 (n + 1) b d 21 65 ml (.int v :: .int u :: r) t Q = (if u < v then vc xs zH_21 n true d 21 68 ml r t Q else vc xs zH_21 n true d 21 104 ml r t Q) := by
  rw [vc_q (o := (20, 0, 104, 3, [])) (by decide +kernel)]; rfl
theorem v_21_68 (xs : Option (List Int32)) (n : Nat) (b : Bool) (d : Nat) (ml : List Value) (t : T) (Q : Option Value → T → Prop) (st : List Value) : vc xs zH_21 (n + 1) b d 21 68 ml st t Q = vgi ml 4 (fun v => vc xs zH_21 n true d 21 70 ml (.int v :: st) t Q) := by
  rw [vc_q (o := (1, 0, 4, 1, [])) (by decide +kernel)]; rfl
theorem v_21_70 (xs : Option (List Int32)) (n : Nat) (b : Bool) (d : Nat) (ml : List Value) (t : T) (Q : Option Value → T → Prop) (st : List Value) : vc xs zH_21 (n + 1) b d 21 70 ml st t Q = vc xs zH_21 n true d 21 71 ml (.int 2 :: st) t Q := by
  rw [vc_q (o := (0, 2, 0, 0, [])) (by decide +kernel)]; rfl
theorem v_21_71 (xs : Option (List Int32)) (n : Nat) (b : Bool) (d : Nat) (ml : List Value) (t : T) (Q : Option Value → T → Prop) (u v : Int32) (r : List Value) : vc xs zH_21 (n + 1) b d 21 71 ml (.int v :: .int u :: r) t Q = (if u = v then vc xs zH_21 n true d 21 104 ml r t Q else vc xs zH_21 n true d 21 74 ml r t Q) := by
  rw [vc_q (o := (20, 0, 104, 0, [])) (by decide +kernel)]; rfl
theorem v_21_74 (xs : Option (List Int32)) (n : Nat) (b : Bool) (d : Nat) (ml : List Value) (t : T) (Q : Option Value → T → Prop) (st : List Value) : vc xs zH_21 (n + 1) b d 21 74 ml st t Q = vgi ml 4 (fun v => vc xs zH_21 n true d 21 76 ml (.int v :: st) t Q) := by
  rw [vc_q (o := (1, 0, 4, 1, [])) (by decide +kernel)]; rfl
theorem v_21_76 (xs : Option (List Int32)) (n : Nat) (b : Bool) (d : Nat) (ml : List Value) (t : T) (Q : Option Value → T → Prop) (st : List Value) : vc xs zH_21 (n + 1) b d 21 76 ml st t Q = vga ml 0 (fun v => vc xs zH_21 n true d 21 77 ml (.ref v :: st) t Q) := by
  rw [vc_q (o := (2, 0, 0, 0, [])) (by decide +kernel)]; rfl
theorem v_21_77 (xs : Option (List Int32)) (n : Nat) (b : Bool) (d : Nat) (ml : List Value) (t : T) (Q : Option Value → T → Prop) (u : Nat) (r : List Value) : vc xs zH_21 (n + 1) b d 21 77 ml (.ref u :: r) t Q = (vtag u = 0 ∧ vc xs zH_21 n true d 21 80 ml (.ref (tref t u 2) :: r) t Q) := by
  rw [vc_q (o := (25, 0, 0, 2, [])) (by decide +kernel)]; rfl
theorem v_21_80 (xs : Option (List Int32)) (n : Nat) (b : Bool) (d : Nat) (ml : List Value) (t : T) (Q : Option Value → T → Prop) (st : List Value) : vc xs zH_21 (n + 1) b d 21 80 ml st t Q = vga ml 3 (fun v => vc xs zH_21 n true d 21 81 ml (.ref v :: st) t Q) := by
  rw [vc_q (o := (2, 0, 3, 0, [])) (by decide +kernel)]; rfl
theorem v_21_81 (xs : Option (List Int32)) (n : Nat) (b : Bool) (d : Nat) (ml : List Value) (t : T) (Q : Option Value → T → Prop) (u : Nat) (r : List Value) : vc xs zH_21 (n + 1) b d 21 81 ml (.ref u :: r) t Q = (vtag u = 8 ∧ vc xs zH_21 n true d 21 84 ml (.ref (tref t u 0) :: r) t Q) := by
  rw [vc_q (o := (25, 0, 8, 0, [])) (by decide +kernel)]; rfl
theorem v_21_84 (xs : Option (List Int32)) (n : Nat) (b : Bool) (d : Nat) (ml : List Value) (t : T) (Q : Option Value → T → Prop) (st : List Value) : vc xs zH_21 (n + 1) b d 21 84 ml st t Q = vgi ml 5 (fun v => vc xs zH_21 n true d 21 86 ml (.int v :: st) t Q) := by
  rw [vc_q (o := (1, 0, 5, 1, [])) (by decide +kernel)]; rfl
theorem v_21_86 (xs : Option (List Int32)) (n : Nat) (b : Bool) (d : Nat) (ml : List Value) (t : T) (Q : Option Value → T → Prop) (v : Int32) (u : Nat) (r : List Value) : vc xs zH_21 (n + 1) b d 21 86 ml (.int v :: .ref u :: r) t Q = (103 ≤ vtag u ∧ vtag u < 108 ∧ vinb v (vlen u) ∧ vc xs zH_21 n true d 21 87 ml (.ref (tref t u v.toNatClampNeg) :: r) t Q) := by
  rw [vc_q (o := (31, 0, 0, 0, [])) (by decide +kernel)]; rfl
theorem v_21_87 (xs : Option (List Int32)) (n : Nat) (b : Bool) (d : Nat) (ml : List Value) (t : T) (Q : Option Value → T → Prop) (st : List Value) : vc xs zH_21 (n + 1) b d 21 87 ml st t Q = vgi ml 2 (fun v => vc xs zH_21 n true d 21 88 ml (.int v :: st) t Q) := by
  rw [vc_q (o := (1, 0, 2, 0, [])) (by decide +kernel)]; rfl
theorem v_21_88 (xs : Option (List Int32)) (n : Nat) (b : Bool) (d : Nat) (ml : List Value) (t : T) (Q : Option Value → T → Prop) (st : List Value) : vc xs zH_21 (n + 1) b d 21 88 ml st t Q = vc xs zH_21 n true d 21 89 ml (.int 0 :: st) t Q := by
  rw [vc_q (o := (0, 0, 0, 0, [])) (by decide +kernel)]; rfl
theorem v_21_89 (xs : Option (List Int32)) (n : Nat) (b : Bool) (d : Nat) (ml : List Value) (t : T) (Q : Option Value → T → Prop) (st : List Value) : vc xs zH_21 (n + 1) b d 21 89 ml st t Q = vc xs zH_21 n true d 21 90 ml (.int 0 :: st) t Q := by
  rw [vc_q (o := (0, 0, 0, 0, [])) (by decide +kernel)]; rfl
theorem v_21_90 (xs : Option (List Int32)) (n : Nat) (b : Bool) (d : Nat) (ml : List Value) (t : T) (Q : Option Value → T → Prop) (st : List Value) : vc xs zH_21 (n + 1) b d 21 90 ml st t Q = (st.all zc1 = true ∧ vtk 5 st [] (fun as rest => rest.length ≤ 8 ∧ vrc as 3 (twc d 122 as t (fun r t' => vc xs zH_21 n true d 21 93 ml (r.toList ++ rest) t' Q)))) := by
  rw [vc_q (o := (36, 0, 122, 4, [(0, 3)])) (by decide +kernel)]; rfl
theorem v_21_93 (xs : Option (List Int32)) (n : Nat) (b : Bool) (d : Nat) (ml : List Value) (t : T) (Q : Option Value → T → Prop) (st : List Value) : vc xs zH_21 (n + 1) b d 21 93 ml st t Q = (st.all zc1 = true ∧ vtk 2 st [] (fun as rest => rest.length ≤ 8 ∧ twc d 23 as t (fun r t' => vc xs zH_21 n true d 21 96 ml (r.toList ++ rest) t' Q))) := by
  rw [vc_q (o := (37, 0, 23, 2, [])) (by decide +kernel)]; rfl
theorem v_21_96 (xs : Option (List Int32)) (n : Nat) (b : Bool) (d : Nat) (ml : List Value) (t : T) (Q : Option Value → T → Prop) (v : Int32) (r : List Value) : vc xs zH_21 (n + 1) b d 21 96 ml (.int v :: r) t Q = vset ml 4 (.int v) (fun l => vc xs zH_21 n true d 21 98 l r t Q) := by
  rw [vc_q (o := (3, 0, 4, 1, [])) (by decide +kernel)]; rfl
theorem v_21_98 (xs : Option (List Int32)) (n : Nat) (b : Bool) (d : Nat) (ml : List Value) (t : T) (Q : Option Value → T → Prop) (st : List Value) : vc xs zH_21 (n + 1) b d 21 98 ml st t Q = vgi ml 5 (fun v => vset ml 5 (.int (v + 1)) (fun l => vc xs zH_21 n true d 21 101 l st t Q)) := by
  rw [vc_q (o := (5, 1, 5, 0, [])) (by decide +kernel)]; rfl
theorem v_21_101 (xs : Option (List Int32)) (n : Nat) (b : Bool) (d : Nat) (ml : List Value) (t : T) (Q : Option Value → T → Prop) (st : List Value) : vc xs zH_21 (n + 1) b d 21 101 ml st t Q = vc xs zH_21 n true d 21 59 ml st t Q := by
  rw [vc_q (o := (22, 0, 59, 0, [])) (by decide +kernel)]; rfl
theorem v_21_104 (xs : Option (List Int32)) (n : Nat) (b : Bool) (d : Nat) (ml : List Value) (t : T) (Q : Option Value → T → Prop) (st : List Value) : vc xs zH_21 (n + 1) b d 21 104 ml st t Q = vgi ml 4 (fun v => vc xs zH_21 n true d 21 106 ml (.int v :: st) t Q) := by
  rw [vc_q (o := (1, 0, 4, 1, [])) (by decide +kernel)]; rfl
theorem v_21_106 (xs : Option (List Int32)) (n : Nat) (b : Bool) (d : Nat) (ml : List Value) (t : T) (Q : Option Value → T → Prop) (v : Int32) : vc xs zH_21 (n + 1) b d 21 106 ml [.int v] t Q = Q (some (.int v)) t := by
  rw [vc_q (o := (40, 0, 0, 0, [])) (by decide +kernel)]; rfl
def zH_22 : List Nat := []
theorem v_22_0 (xs : Option (List Int32)) (n : Nat) (b : Bool) (d : Nat) (ml : List Value) (t : T) (Q : Option Value → T → Prop) (st : List Value) : vc xs zH_22 (n + 1) b d 22 0 ml st t Q = vgi ml 0 (fun v => vc xs zH_22 n true d 22 1 ml (.int v :: st) t Q) := by
  rw [vc_q (o := (1, 0, 0, 0, [])) (by decide +kernel)]; rfl
theorem v_22_1 (xs : Option (List Int32)) (n : Nat) (b : Bool) (d : Nat) (ml : List Value) (t : T) (Q : Option Value → T → Prop) (u : Int32) (r : List Value) : vc xs zH_22 (n + 1) b d 22 1 ml (.int u :: r) t Q = (if u < 0 then vc xs zH_22 n true d 22 13 ml r t Q else vc xs zH_22 n true d 22 4 ml r t Q) := by
  rw [vc_q (o := (21, 0, 13, 2, [])) (by decide +kernel)]; rfl
theorem v_22_4 (xs : Option (List Int32)) (n : Nat) (b : Bool) (d : Nat) (ml : List Value) (t : T) (Q : Option Value → T → Prop) (st : List Value) : vc xs zH_22 (n + 1) b d 22 4 ml st t Q = vgi ml 0 (fun v => vc xs zH_22 n true d 22 5 ml (.int v :: st) t Q) := by
  rw [vc_q (o := (1, 0, 0, 0, [])) (by decide +kernel)]; rfl
theorem v_22_5 (xs : Option (List Int32)) (n : Nat) (b : Bool) (d : Nat) (ml : List Value) (t : T) (Q : Option Value → T → Prop) (st : List Value) : vc xs zH_22 (n + 1) b d 22 5 ml st t Q = vgi ml 1 (fun v => vc xs zH_22 n true d 22 6 ml (.int v :: st) t Q) := by
  rw [vc_q (o := (1, 0, 1, 0, [])) (by decide +kernel)]; rfl
theorem v_22_6 (xs : Option (List Int32)) (n : Nat) (b : Bool) (d : Nat) (ml : List Value) (t : T) (Q : Option Value → T → Prop) (u v : Int32) (r : List Value) : vc xs zH_22 (n + 1) b d 22 6 ml (.int v :: .int u :: r) t Q = (if u < v then vc xs zH_22 n true d 22 9 ml r t Q else vc xs zH_22 n true d 22 13 ml r t Q) := by
  rw [vc_q (o := (20, 0, 13, 3, [])) (by decide +kernel)]; rfl
theorem v_22_9 (xs : Option (List Int32)) (n : Nat) (b : Bool) (d : Nat) (ml : List Value) (t : T) (Q : Option Value → T → Prop) (st : List Value) : vc xs zH_22 (n + 1) b d 22 9 ml st t Q = vc xs zH_22 n true d 22 10 ml (.int 1 :: st) t Q := by
  rw [vc_q (o := (0, 1, 0, 0, [])) (by decide +kernel)]; rfl
theorem v_22_10 (xs : Option (List Int32)) (n : Nat) (b : Bool) (d : Nat) (ml : List Value) (t : T) (Q : Option Value → T → Prop) (st : List Value) : vc xs zH_22 (n + 1) b d 22 10 ml st t Q = vc xs zH_22 n true d 22 14 ml st t Q := by
  rw [vc_q (o := (22, 0, 14, 0, [])) (by decide +kernel)]; rfl
theorem v_22_13 (xs : Option (List Int32)) (n : Nat) (b : Bool) (d : Nat) (ml : List Value) (t : T) (Q : Option Value → T → Prop) (st : List Value) : vc xs zH_22 (n + 1) b d 22 13 ml st t Q = vc xs zH_22 n true d 22 14 ml (.int 0 :: st) t Q := by
  rw [vc_q (o := (0, 0, 0, 0, [])) (by decide +kernel)]; rfl
theorem v_22_14 (xs : Option (List Int32)) (n : Nat) (b : Bool) (d : Nat) (ml : List Value) (t : T) (Q : Option Value → T → Prop) (v : Int32) : vc xs zH_22 (n + 1) b d 22 14 ml [.int v] t Q = ((v = 0 ∨ v = 1) ∧ Q (some (.int v)) t) := by
  rw [vc_q (o := (41, 0, 0, 0, [])) (by decide +kernel)]; rfl
def zH_23 : List Nat := []
theorem v_23_0 (xs : Option (List Int32)) (n : Nat) (b : Bool) (d : Nat) (ml : List Value) (t : T) (Q : Option Value → T → Prop) (st : List Value) : vc xs zH_23 (n + 1) b d 23 0 ml st t Q = vgi ml 0 (fun v => vc xs zH_23 n true d 23 1 ml (.int v :: st) t Q) := by
  rw [vc_q (o := (1, 0, 0, 0, [])) (by decide +kernel)]; rfl
theorem v_23_1 (xs : Option (List Int32)) (n : Nat) (b : Bool) (d : Nat) (ml : List Value) (t : T) (Q : Option Value → T → Prop) (st : List Value) : vc xs zH_23 (n + 1) b d 23 1 ml st t Q = vgi ml 1 (fun v => vc xs zH_23 n true d 23 2 ml (.int v :: st) t Q) := by
  rw [vc_q (o := (1, 0, 1, 0, [])) (by decide +kernel)]; rfl
theorem v_23_2 (xs : Option (List Int32)) (n : Nat) (b : Bool) (d : Nat) (ml : List Value) (t : T) (Q : Option Value → T → Prop) (u v : Int32) (r : List Value) : vc xs zH_23 (n + 1) b d 23 2 ml (.int v :: .int u :: r) t Q = (if u = v then vc xs zH_23 n true d 23 5 ml r t Q else vc xs zH_23 n true d 23 9 ml r t Q) := by
  rw [vc_q (o := (20, 0, 9, 1, [])) (by decide +kernel)]; rfl
theorem v_23_5 (xs : Option (List Int32)) (n : Nat) (b : Bool) (d : Nat) (ml : List Value) (t : T) (Q : Option Value → T → Prop) (st : List Value) : vc xs zH_23 (n + 1) b d 23 5 ml st t Q = vgi ml 0 (fun v => vc xs zH_23 n true d 23 6 ml (.int v :: st) t Q) := by
  rw [vc_q (o := (1, 0, 0, 0, [])) (by decide +kernel)]; rfl
theorem v_23_6 (xs : Option (List Int32)) (n : Nat) (b : Bool) (d : Nat) (ml : List Value) (t : T) (Q : Option Value → T → Prop) (st : List Value) : vc xs zH_23 (n + 1) b d 23 6 ml st t Q = vc xs zH_23 n true d 23 10 ml st t Q := by
  rw [vc_q (o := (22, 0, 10, 0, [])) (by decide +kernel)]; rfl
theorem v_23_9 (xs : Option (List Int32)) (n : Nat) (b : Bool) (d : Nat) (ml : List Value) (t : T) (Q : Option Value → T → Prop) (st : List Value) : vc xs zH_23 (n + 1) b d 23 9 ml st t Q = vc xs zH_23 n true d 23 10 ml (.int 2 :: st) t Q := by
  rw [vc_q (o := (0, 2, 0, 0, [])) (by decide +kernel)]; rfl
theorem v_23_10 (xs : Option (List Int32)) (n : Nat) (b : Bool) (d : Nat) (ml : List Value) (t : T) (Q : Option Value → T → Prop) (v : Int32) : vc xs zH_23 (n + 1) b d 23 10 ml [.int v] t Q = Q (some (.int v)) t := by
  rw [vc_q (o := (40, 0, 0, 0, [])) (by decide +kernel)]; rfl
def zH_24 : List Nat := []
theorem v_24_0 (xs : Option (List Int32)) (n : Nat) (b : Bool) (d : Nat) (ml : List Value) (t : T) (Q : Option Value → T → Prop) (st : List Value) : vc xs zH_24 (n + 1) b d 24 0 ml st t Q = vgi ml 0 (fun v => vc xs zH_24 n true d 24 1 ml (.int v :: st) t Q) := by
  rw [vc_q (o := (1, 0, 0, 0, [])) (by decide +kernel)]; rfl
theorem v_24_1 (xs : Option (List Int32)) (n : Nat) (b : Bool) (d : Nat) (ml : List Value) (t : T) (Q : Option Value → T → Prop) (st : List Value) : vc xs zH_24 (n + 1) b d 24 1 ml st t Q = vc xs zH_24 n true d 24 2 ml (.int 2 :: st) t Q := by
  rw [vc_q (o := (0, 2, 0, 0, [])) (by decide +kernel)]; rfl
theorem v_24_2 (xs : Option (List Int32)) (n : Nat) (b : Bool) (d : Nat) (ml : List Value) (t : T) (Q : Option Value → T → Prop) (u v : Int32) (r : List Value) : vc xs zH_24 (n + 1) b d 24 2 ml (.int v :: .int u :: r) t Q = (if u < v then vc xs zH_24 n true d 24 5 ml r t Q else vc xs zH_24 n true d 24 7 ml r t Q) := by
  rw [vc_q (o := (20, 0, 7, 3, [])) (by decide +kernel)]; rfl
theorem v_24_5 (xs : Option (List Int32)) (n : Nat) (b : Bool) (d : Nat) (ml : List Value) (t : T) (Q : Option Value → T → Prop) (st : List Value) : vc xs zH_24 (n + 1) b d 24 5 ml st t Q = vc xs zH_24 n true d 24 6 ml (.int 0 :: st) t Q := by
  rw [vc_q (o := (0, 0, 0, 0, [])) (by decide +kernel)]; rfl
theorem v_24_6 (xs : Option (List Int32)) (n : Nat) (b : Bool) (d : Nat) (ml : List Value) (t : T) (Q : Option Value → T → Prop) (v : Int32) : vc xs zH_24 (n + 1) b d 24 6 ml [.int v] t Q = Q (some (.int v)) t := by
  rw [vc_q (o := (40, 0, 0, 0, [])) (by decide +kernel)]; rfl
theorem v_24_7 (xs : Option (List Int32)) (n : Nat) (b : Bool) (d : Nat) (ml : List Value) (t : T) (Q : Option Value → T → Prop) (st : List Value) : vc xs zH_24 (n + 1) b d 24 7 ml st t Q = vgi ml 0 (fun v => vc xs zH_24 n true d 24 8 ml (.int v :: st) t Q) := by
  rw [vc_q (o := (1, 0, 0, 0, [])) (by decide +kernel)]; rfl
theorem v_24_8 (xs : Option (List Int32)) (n : Nat) (b : Bool) (d : Nat) (ml : List Value) (t : T) (Q : Option Value → T → Prop) (st : List Value) : vc xs zH_24 (n + 1) b d 24 8 ml st t Q = vc xs zH_24 n true d 24 10 ml (.int 6 :: st) t Q := by
  rw [vc_q (o := (0, 6, 1, 0, [])) (by decide +kernel)]; rfl
theorem v_24_10 (xs : Option (List Int32)) (n : Nat) (b : Bool) (d : Nat) (ml : List Value) (t : T) (Q : Option Value → T → Prop) (u v : Int32) (r : List Value) : vc xs zH_24 (n + 1) b d 24 10 ml (.int v :: .int u :: r) t Q = (if u < v then vc xs zH_24 n true d 24 13 ml r t Q else vc xs zH_24 n true d 24 17 ml r t Q) := by
  rw [vc_q (o := (20, 0, 17, 3, [])) (by decide +kernel)]; rfl
theorem v_24_13 (xs : Option (List Int32)) (n : Nat) (b : Bool) (d : Nat) (ml : List Value) (t : T) (Q : Option Value → T → Prop) (st : List Value) : vc xs zH_24 (n + 1) b d 24 13 ml st t Q = vc xs zH_24 n true d 24 14 ml (.int 1 :: st) t Q := by
  rw [vc_q (o := (0, 1, 0, 0, [])) (by decide +kernel)]; rfl
theorem v_24_14 (xs : Option (List Int32)) (n : Nat) (b : Bool) (d : Nat) (ml : List Value) (t : T) (Q : Option Value → T → Prop) (st : List Value) : vc xs zH_24 (n + 1) b d 24 14 ml st t Q = vc xs zH_24 n true d 24 18 ml st t Q := by
  rw [vc_q (o := (22, 0, 18, 0, [])) (by decide +kernel)]; rfl
theorem v_24_17 (xs : Option (List Int32)) (n : Nat) (b : Bool) (d : Nat) (ml : List Value) (t : T) (Q : Option Value → T → Prop) (st : List Value) : vc xs zH_24 (n + 1) b d 24 17 ml st t Q = vc xs zH_24 n true d 24 18 ml (.int 3 :: st) t Q := by
  rw [vc_q (o := (0, 3, 0, 0, [])) (by decide +kernel)]; rfl
theorem v_24_18 (xs : Option (List Int32)) (n : Nat) (b : Bool) (d : Nat) (ml : List Value) (t : T) (Q : Option Value → T → Prop) (v : Int32) : vc xs zH_24 (n + 1) b d 24 18 ml [.int v] t Q = Q (some (.int v)) t := by
  rw [vc_q (o := (40, 0, 0, 0, [])) (by decide +kernel)]; rfl
def zH_25 : List Nat := []
theorem v_25_0 (xs : Option (List Int32)) (n : Nat) (b : Bool) (d : Nat) (ml : List Value) (t : T) (Q : Option Value → T → Prop) (st : List Value) : vc xs zH_25 (n + 1) b d 25 0 ml st t Q = vgi ml 1 (fun v => vc xs zH_25 n true d 25 1 ml (.int v :: st) t Q) := by
  rw [vc_q (o := (1, 0, 1, 0, [])) (by decide +kernel)]; rfl
theorem v_25_1 (xs : Option (List Int32)) (n : Nat) (b : Bool) (d : Nat) (ml : List Value) (t : T) (Q : Option Value → T → Prop) (st : List Value) : vc xs zH_25 (n + 1) b d 25 1 ml st t Q = vc xs zH_25 n true d 25 2 ml (.int 4 :: st) t Q := by
  rw [vc_q (o := (0, 4, 0, 0, [])) (by decide +kernel)]; rfl
theorem v_25_2 (xs : Option (List Int32)) (n : Nat) (b : Bool) (d : Nat) (ml : List Value) (t : T) (Q : Option Value → T → Prop) (st : List Value) : vc xs zH_25 (n + 1) b d 25 2 ml st t Q = (st.all zc1 = true ∧ vtk 2 st [] (fun as rest => rest.length ≤ 8 ∧ twc d 22 as t (fun r t' => vc xs zH_25 n true d 25 5 ml (r.toList ++ rest) t' Q))) := by
  rw [vc_q (o := (37, 0, 22, 2, [])) (by decide +kernel)]; rfl
theorem v_25_5 (xs : Option (List Int32)) (n : Nat) (b : Bool) (d : Nat) (ml : List Value) (t : T) (Q : Option Value → T → Prop) (u : Int32) (r : List Value) : vc xs zH_25 (n + 1) b d 25 5 ml (.int u :: r) t Q = (if u = 0 then vc xs zH_25 n true d 25 8 ml r t Q else vc xs zH_25 n true d 25 10 ml r t Q) := by
  rw [vc_q (o := (21, 0, 10, 1, [])) (by decide +kernel)]; rfl
theorem v_25_8 (xs : Option (List Int32)) (n : Nat) (b : Bool) (d : Nat) (ml : List Value) (t : T) (Q : Option Value → T → Prop) (st : List Value) : vc xs zH_25 (n + 1) b d 25 8 ml st t Q = vc xs zH_25 n true d 25 9 ml (.int 0 :: st) t Q := by
  rw [vc_q (o := (0, 0, 0, 0, [])) (by decide +kernel)]; rfl
theorem v_25_9 (xs : Option (List Int32)) (n : Nat) (b : Bool) (d : Nat) (ml : List Value) (t : T) (Q : Option Value → T → Prop) (v : Int32) : vc xs zH_25 (n + 1) b d 25 9 ml [.int v] t Q = ((v = 0 ∨ v = 1) ∧ Q (some (.int v)) t) := by
  rw [vc_q (o := (41, 0, 0, 0, [])) (by decide +kernel)]; rfl
theorem v_25_10 (xs : Option (List Int32)) (n : Nat) (b : Bool) (d : Nat) (ml : List Value) (t : T) (Q : Option Value → T → Prop) (st : List Value) : vc xs zH_25 (n + 1) b d 25 10 ml st t Q = vga ml 0 (fun v => vc xs zH_25 n true d 25 11 ml (.ref v :: st) t Q) := by
  rw [vc_q (o := (2, 0, 0, 0, [])) (by decide +kernel)]; rfl
theorem v_25_11 (xs : Option (List Int32)) (n : Nat) (b : Bool) (d : Nat) (ml : List Value) (t : T) (Q : Option Value → T → Prop) (u : Nat) (r : List Value) : vc xs zH_25 (n + 1) b d 25 11 ml (.ref u :: r) t Q = (vtag u = 0 ∧ vc xs zH_25 n true d 25 14 ml (.ref (tref t u 0) :: r) t Q) := by
  rw [vc_q (o := (25, 0, 0, 0, [])) (by decide +kernel)]; rfl
theorem v_25_14 (xs : Option (List Int32)) (n : Nat) (b : Bool) (d : Nat) (ml : List Value) (t : T) (Q : Option Value → T → Prop) (st : List Value) : vc xs zH_25 (n + 1) b d 25 14 ml st t Q = vgi ml 1 (fun v => vc xs zH_25 n true d 25 15 ml (.int v :: st) t Q) := by
  rw [vc_q (o := (1, 0, 1, 0, [])) (by decide +kernel)]; rfl
theorem v_25_15 (xs : Option (List Int32)) (n : Nat) (b : Bool) (d : Nat) (ml : List Value) (t : T) (Q : Option Value → T → Prop) (v : Int32) (u : Nat) (r : List Value) : vc xs zH_25 (n + 1) b d 25 15 ml (.int v :: .ref u :: r) t Q = (103 ≤ vtag u ∧ vtag u < 108 ∧ vinb v (vlen u) ∧ vc xs zH_25 n true d 25 16 ml (.ref (tref t u v.toNatClampNeg) :: r) t Q) := by
  rw [vc_q (o := (31, 0, 0, 0, [])) (by decide +kernel)]; rfl
theorem v_25_16 (xs : Option (List Int32)) (n : Nat) (b : Bool) (d : Nat) (ml : List Value) (t : T) (Q : Option Value → T → Prop) (u : Nat) (r : List Value) : vc xs zH_25 (n + 1) b d 25 16 ml (.ref u :: r) t Q = (vtag u = 4 ∧ vc xs zH_25 n true d 25 19 ml (.int (t.1 u 0) :: r) t Q) := by
  rw [vc_q (o := (24, 0, 4, 0, [])) (by decide +kernel)]; rfl
theorem v_25_19 (xs : Option (List Int32)) (n : Nat) (b : Bool) (d : Nat) (ml : List Value) (t : T) (Q : Option Value → T → Prop) (v : Int32) (r : List Value) : vc xs zH_25 (n + 1) b d 25 19 ml (.int v :: r) t Q = vset ml 5 (.int v) (fun l => vc xs zH_25 n true d 25 21 l r t Q) := by
  rw [vc_q (o := (3, 0, 5, 1, [])) (by decide +kernel)]; rfl
theorem v_25_21 (xs : Option (List Int32)) (n : Nat) (b : Bool) (d : Nat) (ml : List Value) (t : T) (Q : Option Value → T → Prop) (st : List Value) : vc xs zH_25 (n + 1) b d 25 21 ml st t Q = vgi ml 2 (fun v => vc xs zH_25 n true d 25 22 ml (.int v :: st) t Q) := by
  rw [vc_q (o := (1, 0, 2, 0, [])) (by decide +kernel)]; rfl
theorem v_25_22 (xs : Option (List Int32)) (n : Nat) (b : Bool) (d : Nat) (ml : List Value) (t : T) (Q : Option Value → T → Prop) (st : List Value) : vc xs zH_25 (n + 1) b d 25 22 ml st t Q = vc xs zH_25 n true d 25 23 ml (.int 2 :: st) t Q := by
  rw [vc_q (o := (0, 2, 0, 0, [])) (by decide +kernel)]; rfl
theorem v_25_23 (xs : Option (List Int32)) (n : Nat) (b : Bool) (d : Nat) (ml : List Value) (t : T) (Q : Option Value → T → Prop) (u v : Int32) (r : List Value) : vc xs zH_25 (n + 1) b d 25 23 ml (.int v :: .int u :: r) t Q = (if u < v then vc xs zH_25 n true d 25 35 ml r t Q else vc xs zH_25 n true d 25 26 ml r t Q) := by
  rw [vc_q (o := (20, 0, 35, 2, [])) (by decide +kernel)]; rfl
theorem v_25_26 (xs : Option (List Int32)) (n : Nat) (b : Bool) (d : Nat) (ml : List Value) (t : T) (Q : Option Value → T → Prop) (st : List Value) : vc xs zH_25 (n + 1) b d 25 26 ml st t Q = vgi ml 3 (fun v => vc xs zH_25 n true d 25 27 ml (.int v :: st) t Q) := by
  rw [vc_q (o := (1, 0, 3, 0, [])) (by decide +kernel)]; rfl
theorem v_25_27 (xs : Option (List Int32)) (n : Nat) (b : Bool) (d : Nat) (ml : List Value) (t : T) (Q : Option Value → T → Prop) (st : List Value) : vc xs zH_25 (n + 1) b d 25 27 ml st t Q = vgi ml 5 (fun v => vc xs zH_25 n true d 25 29 ml (.int v :: st) t Q) := by
  rw [vc_q (o := (1, 0, 5, 1, [])) (by decide +kernel)]; rfl
theorem v_25_29 (xs : Option (List Int32)) (n : Nat) (b : Bool) (d : Nat) (ml : List Value) (t : T) (Q : Option Value → T → Prop) (st : List Value) : vc xs zH_25 (n + 1) b d 25 29 ml st t Q = (st.all zc1 = true ∧ vtk 2 st [] (fun as rest => rest.length ≤ 8 ∧ twc d 22 as t (fun r t' => vc xs zH_25 n true d 25 32 ml (r.toList ++ rest) t' Q))) := by
  rw [vc_q (o := (37, 0, 22, 2, [])) (by decide +kernel)]; rfl
theorem v_25_32 (xs : Option (List Int32)) (n : Nat) (b : Bool) (d : Nat) (ml : List Value) (t : T) (Q : Option Value → T → Prop) (u : Int32) (r : List Value) : vc xs zH_25 (n + 1) b d 25 32 ml (.int u :: r) t Q = (if u = 0 then vc xs zH_25 n true d 25 55 ml r t Q else vc xs zH_25 n true d 25 35 ml r t Q) := by
  rw [vc_q (o := (21, 0, 55, 0, [])) (by decide +kernel)]; rfl
theorem v_25_35 (xs : Option (List Int32)) (n : Nat) (b : Bool) (d : Nat) (ml : List Value) (t : T) (Q : Option Value → T → Prop) (st : List Value) : vc xs zH_25 (n + 1) b d 25 35 ml st t Q = vgi ml 2 (fun v => vc xs zH_25 n true d 25 36 ml (.int v :: st) t Q) := by
  rw [vc_q (o := (1, 0, 2, 0, [])) (by decide +kernel)]; rfl
theorem v_25_36 (xs : Option (List Int32)) (n : Nat) (b : Bool) (d : Nat) (ml : List Value) (t : T) (Q : Option Value → T → Prop) (st : List Value) : vc xs zH_25 (n + 1) b d 25 36 ml st t Q = vc xs zH_25 n true d 25 38 ml (.int 6 :: st) t Q := by
  rw [vc_q (o := (0, 6, 1, 0, [])) (by decide +kernel)]; rfl
theorem v_25_38 (xs : Option (List Int32)) (n : Nat) (b : Bool) (d : Nat) (ml : List Value) (t : T) (Q : Option Value → T → Prop) (u v : Int32) (r : List Value) : vc xs zH_25 (n + 1) b d 25 38 ml (.int v :: .int u :: r) t Q = (if u < v then vc xs zH_25 n true d 25 51 ml r t Q else vc xs zH_25 n true d 25 41 ml r t Q) := by
  rw [vc_q (o := (20, 0, 51, 2, [])) (by decide +kernel)]; rfl
theorem v_25_41 (xs : Option (List Int32)) (n : Nat) (b : Bool) (d : Nat) (ml : List Value) (t : T) (Q : Option Value → T → Prop) (st : List Value) : vc xs zH_25 (n + 1) b d 25 41 ml st t Q = vgi ml 4 (fun v => vc xs zH_25 n true d 25 43 ml (.int v :: st) t Q) := by
  rw [vc_q (o := (1, 0, 4, 1, [])) (by decide +kernel)]; rfl
theorem v_25_43 (xs : Option (List Int32)) (n : Nat) (b : Bool) (d : Nat) (ml : List Value) (t : T) (Q : Option Value → T → Prop) (st : List Value) : vc xs zH_25 (n + 1) b d 25 43 ml st t Q = vgi ml 5 (fun v => vc xs zH_25 n true d 25 45 ml (.int v :: st) t Q) := by
  rw [vc_q (o := (1, 0, 5, 1, [])) (by decide +kernel)]; rfl
theorem v_25_45 (xs : Option (List Int32)) (n : Nat) (b : Bool) (d : Nat) (ml : List Value) (t : T) (Q : Option Value → T → Prop) (st : List Value) : vc xs zH_25 (n + 1) b d 25 45 ml st t Q = (st.all zc1 = true ∧ vtk 2 st [] (fun as rest => rest.length ≤ 8 ∧ twc d 22 as t (fun r t' => vc xs zH_25 n true d 25 48 ml (r.toList ++ rest) t' Q))) := by
  rw [vc_q (o := (37, 0, 22, 2, [])) (by decide +kernel)]; rfl
theorem v_25_48 (xs : Option (List Int32)) (n : Nat) (b : Bool) (d : Nat) (ml : List Value) (t : T) (Q : Option Value → T → Prop) (u : Int32) (r : List Value) : vc xs zH_25 (n + 1) b d 25 48 ml (.int u :: r) t Q = (if u = 0 then vc xs zH_25 n true d 25 55 ml r t Q else vc xs zH_25 n true d 25 51 ml r t Q) := by
  rw [vc_q (o := (21, 0, 55, 0, [])) (by decide +kernel)]; rfl
theorem v_25_51 (xs : Option (List Int32)) (n : Nat) (b : Bool) (d : Nat) (ml : List Value) (t : T) (Q : Option Value → T → Prop) (st : List Value) : vc xs zH_25 (n + 1) b d 25 51 ml st t Q = vc xs zH_25 n true d 25 52 ml (.int 1 :: st) t Q := by
  rw [vc_q (o := (0, 1, 0, 0, [])) (by decide +kernel)]; rfl
theorem v_25_52 (xs : Option (List Int32)) (n : Nat) (b : Bool) (d : Nat) (ml : List Value) (t : T) (Q : Option Value → T → Prop) (st : List Value) : vc xs zH_25 (n + 1) b d 25 52 ml st t Q = vc xs zH_25 n true d 25 56 ml st t Q := by
  rw [vc_q (o := (22, 0, 56, 0, [])) (by decide +kernel)]; rfl
theorem v_25_55 (xs : Option (List Int32)) (n : Nat) (b : Bool) (d : Nat) (ml : List Value) (t : T) (Q : Option Value → T → Prop) (st : List Value) : vc xs zH_25 (n + 1) b d 25 55 ml st t Q = vc xs zH_25 n true d 25 56 ml (.int 0 :: st) t Q := by
  rw [vc_q (o := (0, 0, 0, 0, [])) (by decide +kernel)]; rfl
theorem v_25_56 (xs : Option (List Int32)) (n : Nat) (b : Bool) (d : Nat) (ml : List Value) (t : T) (Q : Option Value → T → Prop) (v : Int32) : vc xs zH_25 (n + 1) b d 25 56 ml [.int v] t Q = ((v = 0 ∨ v = 1) ∧ Q (some (.int v)) t) := by
  rw [vc_q (o := (41, 0, 0, 0, [])) (by decide +kernel)]; rfl
def zH_26 : List Nat := []
theorem v_26_0 (xs : Option (List Int32)) (n : Nat) (b : Bool) (d : Nat) (ml : List Value) (t : T) (Q : Option Value → T → Prop) (st : List Value) : vc xs zH_26 (n + 1) b d 26 0 ml st t Q = vgi ml 2 (fun v => vc xs zH_26 n true d 26 1 ml (.int v :: st) t Q) := by
  rw [vc_q (o := (1, 0, 2, 0, [])) (by decide +kernel)]; rfl
theorem v_26_1 (xs : Option (List Int32)) (n : Nat) (b : Bool) (d : Nat) (ml : List Value) (t : T) (Q : Option Value → T → Prop) (st : List Value) : vc xs zH_26 (n + 1) b d 26 1 ml st t Q = vga ml 1 (fun v => vc xs zH_26 n true d 26 2 ml (.ref v :: st) t Q) := by
  rw [vc_q (o := (2, 0, 1, 0, [])) (by decide +kernel)]; rfl
theorem v_26_2 (xs : Option (List Int32)) (n : Nat) (b : Bool) (d : Nat) (ml : List Value) (t : T) (Q : Option Value → T → Prop) (u : Nat) (r : List Value) : vc xs zH_26 (n + 1) b d 26 2 ml (.ref u :: r) t Q = (vtag u = 8 ∧ vc xs zH_26 n true d 26 5 ml (.int (t.1 u 1) :: r) t Q) := by
  rw [vc_q (o := (24, 0, 8, 1, [])) (by decide +kernel)]; rfl
theorem v_26_5 (xs : Option (List Int32)) (n : Nat) (b : Bool) (d : Nat) (ml : List Value) (t : T) (Q : Option Value → T → Prop) (st : List Value) : vc xs zH_26 (n + 1) b d 26 5 ml st t Q = (st.all zc1 = true ∧ vtk 2 st [] (fun as rest => rest.length ≤ 8 ∧ twc d 22 as t (fun r t' => vc xs zH_26 n true d 26 8 ml (r.toList ++ rest) t' Q))) := by
  rw [vc_q (o := (37, 0, 22, 2, [])) (by decide +kernel)]; rfl
theorem v_26_8 (xs : Option (List Int32)) (n : Nat) (b : Bool) (d : Nat) (ml : List Value) (t : T) (Q : Option Value → T → Prop) (u : Int32) (r : List Value) : vc xs zH_26 (n + 1) b d 26 8 ml (.int u :: r) t Q = (if u = 0 then vc xs zH_26 n true d 26 19 ml r t Q else vc xs zH_26 n true d 26 11 ml r t Q) := by
  rw [vc_q (o := (21, 0, 19, 0, [])) (by decide +kernel)]; rfl
theorem v_26_11 (xs : Option (List Int32)) (n : Nat) (b : Bool) (d : Nat) (ml : List Value) (t : T) (Q : Option Value → T → Prop) (st : List Value) : vc xs zH_26 (n + 1) b d 26 11 ml st t Q = vgi ml 3 (fun v => vc xs zH_26 n true d 26 12 ml (.int v :: st) t Q) := by
  rw [vc_q (o := (1, 0, 3, 0, [])) (by decide +kernel)]; rfl
theorem v_26_12 (xs : Option (List Int32)) (n : Nat) (b : Bool) (d : Nat) (ml : List Value) (t : T) (Q : Option Value → T → Prop) (st : List Value) : vc xs zH_26 (n + 1) b d 26 12 ml st t Q = vc xs zH_26 n true d 26 13 ml (.int 4 :: st) t Q := by
  rw [vc_q (o := (0, 4, 0, 0, [])) (by decide +kernel)]; rfl
theorem v_26_13 (xs : Option (List Int32)) (n : Nat) (b : Bool) (d : Nat) (ml : List Value) (t : T) (Q : Option Value → T → Prop) (st : List Value) : vc xs zH_26 (n + 1) b d 26 13 ml st t Q = (st.all zc1 = true ∧ vtk 2 st [] (fun as rest => rest.length ≤ 8 ∧ twc d 22 as t (fun r t' => vc xs zH_26 n true d 26 16 ml (r.toList ++ rest) t' Q))) := by
  rw [vc_q (o := (37, 0, 22, 2, [])) (by decide +kernel)]; rfl
theorem v_26_16 (xs : Option (List Int32)) (n : Nat) (b : Bool) (d : Nat) (ml : List Value) (t : T) (Q : Option Value → T → Prop) (u : Int32) (r : List Value) : vc xs zH_26 (n + 1) b d 26 16 ml (.int u :: r) t Q = (if u = 0 then vc xs zH_26 n true d 26 19 ml r t Q else vc xs zH_26 n true d 26 21 ml r t Q) := by
  rw [vc_q (o := (21, 0, 21, 1, [])) (by decide +kernel)]; rfl
theorem v_26_19 (xs : Option (List Int32)) (n : Nat) (b : Bool) (d : Nat) (ml : List Value) (t : T) (Q : Option Value → T → Prop) (st : List Value) : vc xs zH_26 (n + 1) b d 26 19 ml st t Q = vc xs zH_26 n true d 26 20 ml (.int 0 :: st) t Q := by
  rw [vc_q (o := (0, 0, 0, 0, [])) (by decide +kernel)]; rfl
theorem v_26_20 (xs : Option (List Int32)) (n : Nat) (b : Bool) (d : Nat) (ml : List Value) (t : T) (Q : Option Value → T → Prop) (v : Int32) : vc xs zH_26 (n + 1) b d 26 20 ml [.int v] t Q = ((v = 0 ∨ v = 1) ∧ Q (some (.int v)) t) := by
  rw [vc_q (o := (41, 0, 0, 0, [])) (by decide +kernel)]; rfl
theorem v_26_21 (xs : Option (List Int32)) (n : Nat) (b : Bool) (d : Nat) (ml : List Value) (t : T) (Q : Option Value → T → Prop) (st : List Value) : vc xs zH_26 (n + 1) b d 26 21 ml st t Q = vga ml 0 (fun v => vc xs zH_26 n true d 26 22 ml (.ref v :: st) t Q) := by
  rw [vc_q (o := (2, 0, 0, 0, [])) (by decide +kernel)]; rfl
theorem v_26_22 (xs : Option (List Int32)) (n : Nat) (b : Bool) (d : Nat) (ml : List Value) (t : T) (Q : Option Value → T → Prop) (u : Nat) (r : List Value) : vc xs zH_26 (n + 1) b d 26 22 ml (.ref u :: r) t Q = (vtag u = 0 ∧ vc xs zH_26 n true d 26 25 ml (.ref (tref t u 0) :: r) t Q) := by
  rw [vc_q (o := (25, 0, 0, 0, [])) (by decide +kernel)]; rfl
theorem v_26_25 (xs : Option (List Int32)) (n : Nat) (b : Bool) (d : Nat) (ml : List Value) (t : T) (Q : Option Value → T → Prop) (st : List Value) : vc xs zH_26 (n + 1) b d 26 25 ml st t Q = vgi ml 3 (fun v => vc xs zH_26 n true d 26 26 ml (.int v :: st) t Q) := by
  rw [vc_q (o := (1, 0, 3, 0, [])) (by decide +kernel)]; rfl
theorem v_26_26 (xs : Option (List Int32)) (n : Nat) (b : Bool) (d : Nat) (ml : List Value) (t : T) (Q : Option Value → T → Prop) (v : Int32) (u : Nat) (r : List Value) : vc xs zH_26 (n + 1) b d 26 26 ml (.int v :: .ref u :: r) t Q = (103 ≤ vtag u ∧ vtag u < 108 ∧ vinb v (vlen u) ∧ vc xs zH_26 n true d 26 27 ml (.ref (tref t u v.toNatClampNeg) :: r) t Q) := by
  rw [vc_q (o := (31, 0, 0, 0, [])) (by decide +kernel)]; rfl
theorem v_26_27 (xs : Option (List Int32)) (n : Nat) (b : Bool) (d : Nat) (ml : List Value) (t : T) (Q : Option Value → T → Prop) (st : List Value) : vc xs zH_26 (n + 1) b d 26 27 ml st t Q = vga ml 1 (fun v => vc xs zH_26 n true d 26 28 ml (.ref v :: st) t Q) := by
  rw [vc_q (o := (2, 0, 1, 0, [])) (by decide +kernel)]; rfl
theorem v_26_28 (xs : Option (List Int32)) (n : Nat) (b : Bool) (d : Nat) (ml : List Value) (t : T) (Q : Option Value → T → Prop) (u : Nat) (r : List Value) : vc xs zH_26 (n + 1) b d 26 28 ml (.ref u :: r) t Q = (vtag u = 8 ∧ vc xs zH_26 n true d 26 31 ml (.ref (tref t u 0) :: r) t Q) := by
  rw [vc_q (o := (25, 0, 8, 0, [])) (by decide +kernel)]; rfl
theorem v_26_31 (xs : Option (List Int32)) (n : Nat) (b : Bool) (d : Nat) (ml : List Value) (t : T) (Q : Option Value → T → Prop) (st : List Value) : vc xs zH_26 (n + 1) b d 26 31 ml st t Q = vgi ml 2 (fun v => vc xs zH_26 n true d 26 32 ml (.int v :: st) t Q) := by
  rw [vc_q (o := (1, 0, 2, 0, [])) (by decide +kernel)]; rfl
theorem v_26_32 (xs : Option (List Int32)) (n : Nat) (b : Bool) (d : Nat) (ml : List Value) (t : T) (Q : Option Value → T → Prop) (v : Int32) (u : Nat) (r : List Value) : vc xs zH_26 (n + 1) b d 26 32 ml (.int v :: .ref u :: r) t Q = (103 ≤ vtag u ∧ vtag u < 108 ∧ vinb v (vlen u) ∧ vc xs zH_26 n true d 26 33 ml (.ref (tref t u v.toNatClampNeg) :: r) t Q) := by
  rw [vc_q (o := (31, 0, 0, 0, [])) (by decide +kernel)]; rfl
theorem v_26_33 (xs : Option (List Int32)) (n : Nat) (b : Bool) (d : Nat) (ml : List Value) (t : T) (Q : Option Value → T → Prop) (st : List Value) : vc xs zH_26 (n + 1) b d 26 33 ml st t Q = (st.all zc1 = true ∧ vtk 2 st [] (fun as rest => rest.length ≤ 8 ∧ vrc as 4 (twc d 168 as t (fun r t' => vc xs zH_26 n true d 26 36 ml (r.toList ++ rest) t' Q)))) := by
  rw [vc_q (o := (36, 0, 168, 1, [(0, 4)])) (by decide +kernel)]; rfl
theorem v_26_36 (xs : Option (List Int32)) (n : Nat) (b : Bool) (d : Nat) (ml : List Value) (t : T) (Q : Option Value → T → Prop) (st : List Value) : vc xs zH_26 (n + 1) b d 26 36 ml st t Q = vc xs zH_26 n true d 26 37 ml (.int 1 :: st) t Q := by
  rw [vc_q (o := (0, 1, 0, 0, [])) (by decide +kernel)]; rfl
theorem v_26_37 (xs : Option (List Int32)) (n : Nat) (b : Bool) (d : Nat) (ml : List Value) (t : T) (Q : Option Value → T → Prop) (v : Int32) : vc xs zH_26 (n + 1) b d 26 37 ml [.int v] t Q = ((v = 0 ∨ v = 1) ∧ Q (some (.int v)) t) := by
  rw [vc_q (o := (41, 0, 0, 0, [])) (by decide +kernel)]; rfl
def zH_27 : List Nat := [2]
theorem v_27_0 (xs : Option (List Int32)) (n : Nat) (b : Bool) (d : Nat) (ml : List Value) (t : T) (Q : Option Value → T → Prop) (st : List Value) : vc xs zH_27 (n + 1) b d 27 0 ml st t Q = vc xs zH_27 n true d 27 1 ml (.int 0 :: st) t Q := by
  rw [vc_q (o := (0, 0, 0, 0, [])) (by decide +kernel)]; rfl
theorem v_27_1 (xs : Option (List Int32)) (n : Nat) (b : Bool) (d : Nat) (ml : List Value) (t : T) (Q : Option Value → T → Prop) (v : Int32) (r : List Value) : vc xs zH_27 (n + 1) b d 27 1 ml (.int v :: r) t Q = vset ml 1 (.int v) (fun l => vc xs zH_27 n true d 27 2 l r t Q) := by
  rw [vc_q (o := (3, 0, 1, 0, [])) (by decide +kernel)]; rfl
theorem v_27_2 (xs : Option (List Int32)) (n : Nat) (d : Nat) (ml : List Value) (t : T) (Q : Option Value → T → Prop) (st : List Value) : vc xs zH_27 (n + 1) false d 27 2 ml st t Q = vgi ml 1 (fun v => vc xs zH_27 n true d 27 3 ml (.int v :: st) t Q) := by
  rw [vc_q (o := (1, 0, 1, 0, [])) (by decide +kernel)]; rfl
theorem h_27_2 (xs : Option (List Int32)) (n d : Nat) (ml st : List Value) (t : T) (Q : Option Value → T → Prop) : vc xs zH_27 (n + 1) true d 27 2 ml st t Q = twp xs d 27 2 ml st t Q := id rfl
theorem v_27_3 (xs : Option (List Int32)) (n : Nat) (b : Bool) (d : Nat) (ml : List Value) (t : T) (Q : Option Value → T → Prop) (st : List Value) : vc xs zH_27 (n + 1) b d 27 3 ml st t Q = vc xs zH_27 n true d 27 4 ml (.int 4 :: st) t Q := by
  rw [vc_q (o := (0, 4, 0, 0, [])) (by decide +kernel)]; rfl
theorem v_27_4 (xs : Option (List Int32)) (n : Nat) (b : Bool) (d : Nat) (ml : List Value) (t : T) (Q : Option Value → T → Prop) (u v : Int32) (r : List Value) : vc xs zH_27 (n + 1) b d 27 4 ml (.int v :: .int u :: r) t Q = (if u < v then vc xs zH_27 n true d 27 7 ml r t Q else vc xs zH_27 n true d 27 28 ml r t Q) := by
  rw [vc_q (o := (20, 0, 28, 3, [])) (by decide +kernel)]; rfl
theorem v_27_7 (xs : Option (List Int32)) (n : Nat) (b : Bool) (d : Nat) (ml : List Value) (t : T) (Q : Option Value → T → Prop) (st : List Value) : vc xs zH_27 (n + 1) b d 27 7 ml st t Q = vga ml 0 (fun v => vc xs zH_27 n true d 27 8 ml (.ref v :: st) t Q) := by
  rw [vc_q (o := (2, 0, 0, 0, [])) (by decide +kernel)]; rfl
theorem v_27_8 (xs : Option (List Int32)) (n : Nat) (b : Bool) (d : Nat) (ml : List Value) (t : T) (Q : Option Value → T → Prop) (u : Nat) (r : List Value) : vc xs zH_27 (n + 1) b d 27 8 ml (.ref u :: r) t Q = (vtag u = 0 ∧ vc xs zH_27 n true d 27 11 ml (.ref (tref t u 9) :: r) t Q) := by
  rw [vc_q (o := (25, 0, 0, 9, [])) (by decide +kernel)]; rfl
theorem v_27_11 (xs : Option (List Int32)) (n : Nat) (b : Bool) (d : Nat) (ml : List Value) (t : T) (Q : Option Value → T → Prop) (st : List Value) : vc xs zH_27 (n + 1) b d 27 11 ml st t Q = vgi ml 1 (fun v => vc xs zH_27 n true d 27 12 ml (.int v :: st) t Q) := by
  rw [vc_q (o := (1, 0, 1, 0, [])) (by decide +kernel)]; rfl
theorem v_27_12 (xs : Option (List Int32)) (n : Nat) (b : Bool) (d : Nat) (ml : List Value) (t : T) (Q : Option Value → T → Prop) (v : Int32) (u : Nat) (r : List Value) : vc xs zH_27 (n + 1) b d 27 12 ml (.int v :: .ref u :: r) t Q = (103 ≤ vtag u ∧ vtag u < 108 ∧ vinb v (vlen u) ∧ vc xs zH_27 n true d 27 13 ml (.ref (tref t u v.toNatClampNeg) :: r) t Q) := by
  rw [vc_q (o := (31, 0, 0, 0, [])) (by decide +kernel)]; rfl
theorem v_27_13 (xs : Option (List Int32)) (n : Nat) (b : Bool) (d : Nat) (ml : List Value) (t : T) (Q : Option Value → T → Prop) (st : List Value) : vc xs zH_27 (n + 1) b d 27 13 ml st t Q = vga ml 0 (fun v => vc xs zH_27 n true d 27 14 ml (.ref v :: st) t Q) := by
  rw [vc_q (o := (2, 0, 0, 0, [])) (by decide +kernel)]; rfl
theorem v_27_14 (xs : Option (List Int32)) (n : Nat) (b : Bool) (d : Nat) (ml : List Value) (t : T) (Q : Option Value → T → Prop) (u : Nat) (r : List Value) : vc xs zH_27 (n + 1) b d 27 14 ml (.ref u :: r) t Q = (vtag u = 0 ∧ vc xs zH_27 n true d 27 17 ml (.ref (tref t u 8) :: r) t Q) := by
  rw [vc_q (o := (25, 0, 0, 8, [])) (by decide +kernel)]; rfl
theorem v_27_17 (xs : Option (List Int32)) (n : Nat) (b : Bool) (d : Nat) (ml : List Value) (t : T) (Q : Option Value → T → Prop) (st : List Value) : vc xs zH_27 (n + 1) b d 27 17 ml st t Q = vgi ml 1 (fun v => vc xs zH_27 n true d 27 18 ml (.int v :: st) t Q) := by
  rw [vc_q (o := (1, 0, 1, 0, [])) (by decide +kernel)]; rfl
theorem v_27_18 (xs : Option (List Int32)) (n : Nat) (b : Bool) (d : Nat) (ml : List Value) (t : T) (Q : Option Value → T → Prop) (v : Int32) (u : Nat) (r : List Value) : vc xs zH_27 (n + 1) b d 27 18 ml (.int v :: .ref u :: r) t Q = (103 ≤ vtag u ∧ vtag u < 108 ∧ vinb v (vlen u) ∧ vc xs zH_27 n true d 27 19 ml (.ref (tref t u v.toNatClampNeg) :: r) t Q) := by
  rw [vc_q (o := (31, 0, 0, 0, [])) (by decide +kernel)]; rfl
theorem v_27_19 (xs : Option (List Int32)) (n : Nat) (b : Bool) (d : Nat) (ml : List Value) (t : T) (Q : Option Value → T → Prop) (st : List Value) : vc xs zH_27 (n + 1) b d 27 19 ml st t Q = (st.all zc1 = true ∧ vtk 2 st [] (fun as rest => rest.length ≤ 8 ∧ vrc as 8 (twc d 110 as t (fun r t' => vc xs zH_27 n true d 27 22 ml (r.toList ++ rest) t' Q)))) := by
  rw [vc_q (o := (36, 0, 110, 1, [(0, 8)])) (by decide +kernel)]; rfl
theorem v_27_22 (xs : Option (List Int32)) (n : Nat) (b : Bool) (d : Nat) (ml : List Value) (t : T) (Q : Option Value → T → Prop) (st : List Value) : vc xs zH_27 (n + 1) b d 27 22 ml st t Q = vgi ml 1 (fun v => vset ml 1 (.int (v + 1)) (fun l => vc xs zH_27 n true d 27 25 l st t Q)) := by
  rw [vc_q (o := (5, 1, 1, 0, [])) (by decide +kernel)]; rfl
theorem v_27_25 (xs : Option (List Int32)) (n : Nat) (b : Bool) (d : Nat) (ml : List Value) (t : T) (Q : Option Value → T → Prop) (st : List Value) : vc xs zH_27 (n + 1) b d 27 25 ml st t Q = vc xs zH_27 n true d 27 2 ml st t Q := by
  rw [vc_q (o := (22, 0, 2, 0, [])) (by decide +kernel)]; rfl
theorem v_27_28 (xs : Option (List Int32)) (n : Nat) (b : Bool) (d : Nat) (ml : List Value) (t : T) (Q : Option Value → T → Prop)  : vc xs zH_27 (n + 1) b d 27 28 ml [] t Q = Q none t := by
  rw [vc_q (o := (43, 0, 0, 0, [])) (by decide +kernel)]; rfl
def zH_28 : List Nat := [2]
theorem v_28_0 (xs : Option (List Int32)) (n : Nat) (b : Bool) (d : Nat) (ml : List Value) (t : T) (Q : Option Value → T → Prop) (st : List Value) : vc xs zH_28 (n + 1) b d 28 0 ml st t Q = vc xs zH_28 n true d 28 1 ml (.int 0 :: st) t Q := by
  rw [vc_q (o := (0, 0, 0, 0, [])) (by decide +kernel)]; rfl
theorem v_28_1 (xs : Option (List Int32)) (n : Nat) (b : Bool) (d : Nat) (ml : List Value) (t : T) (Q : Option Value → T → Prop) (v : Int32) (r : List Value) : vc xs zH_28 (n + 1) b d 28 1 ml (.int v :: r) t Q = vset ml 1 (.int v) (fun l => vc xs zH_28 n true d 28 2 l r t Q) := by
  rw [vc_q (o := (3, 0, 1, 0, [])) (by decide +kernel)]; rfl
theorem v_28_2 (xs : Option (List Int32)) (n : Nat) (d : Nat) (ml : List Value) (t : T) (Q : Option Value → T → Prop) (st : List Value) : vc xs zH_28 (n + 1) false d 28 2 ml st t Q = vgi ml 1 (fun v => vc xs zH_28 n true d 28 3 ml (.int v :: st) t Q) := by
  rw [vc_q (o := (1, 0, 1, 0, [])) (by decide +kernel)]; rfl
theorem h_28_2 (xs : Option (List Int32)) (n d : Nat) (ml st : List Value) (t : T) (Q : Option Value → T → Prop) : vc xs zH_28 (n + 1) true d 28 2 ml st t Q = twp xs d 28 2 ml st t Q := id rfl
theorem v_28_3 (xs : Option (List Int32)) (n : Nat) (b : Bool) (d : Nat) (ml : List Value) (t : T) (Q : Option Value → T → Prop) (st : List Value) : vc xs zH_28 (n + 1) b d 28 3 ml st t Q = vc xs zH_28 n true d 28 4 ml (.int 4 :: st) t Q := by
  rw [vc_q (o := (0, 4, 0, 0, [])) (by decide +kernel)]; rfl
theorem v_28_4 (xs : Option (List Int32)) (n : Nat) (b : Bool) (d : Nat) (ml : List Value) (t : T) (Q : Option Value → T → Prop) (u v : Int32) (r : List Value) : vc xs zH_28 (n + 1) b d 28 4 ml (.int v :: .int u :: r) t Q = (if u < v then vc xs zH_28 n true d 28 7 ml r t Q else vc xs zH_28 n true d 28 33 ml r t Q) := by
  rw [vc_q (o := (20, 0, 33, 3, [])) (by decide +kernel)]; rfl
theorem v_28_7 (xs : Option (List Int32)) (n : Nat) (b : Bool) (d : Nat) (ml : List Value) (t : T) (Q : Option Value → T → Prop) (st : List Value) : vc xs zH_28 (n + 1) b d 28 7 ml st t Q = vga ml 0 (fun v => vc xs zH_28 n true d 28 8 ml (.ref v :: st) t Q) := by
  rw [vc_q (o := (2, 0, 0, 0, [])) (by decide +kernel)]; rfl
theorem v_28_8 (xs : Option (List Int32)) (n : Nat) (b : Bool) (d : Nat) (ml : List Value) (t : T) (Q : Option Value → T → Prop) (u : Nat) (r : List Value) : vc xs zH_28 (n + 1) b d 28 8 ml (.ref u :: r) t Q = (vtag u = 0 ∧ vc xs zH_28 n true d 28 11 ml (.ref (tref t u 10) :: r) t Q) := by
  rw [vc_q (o := (25, 0, 0, 10, [])) (by decide +kernel)]; rfl
theorem v_28_11 (xs : Option (List Int32)) (n : Nat) (b : Bool) (d : Nat) (ml : List Value) (t : T) (Q : Option Value → T → Prop) (st : List Value) : vc xs zH_28 (n + 1) b d 28 11 ml st t Q = vgi ml 1 (fun v => vc xs zH_28 n true d 28 12 ml (.int v :: st) t Q) := by
  rw [vc_q (o := (1, 0, 1, 0, [])) (by decide +kernel)]; rfl
theorem v_28_12 (xs : Option (List Int32)) (n : Nat) (b : Bool) (d : Nat) (ml : List Value) (t : T) (Q : Option Value → T → Prop) (v : Int32) (u : Nat) (r : List Value) : vc xs zH_28 (n + 1) b d 28 12 ml (.int v :: .ref u :: r) t Q = (vtag u = 100 ∧ vinb v (vlen u) ∧ vc xs zH_28 n true d 28 13 ml (.int (t.1 u v.toNatClampNeg) :: r) t Q) := by
  rw [vc_q (o := (29, 0, 0, 0, [])) (by decide +kernel)]; rfl
theorem v_28_13 (xs : Option (List Int32)) (n : Nat) (b : Bool) (d : Nat) (ml : List Value) (t : T) (Q : Option Value → T → Prop) (st : List Value) : vc xs zH_28 (n + 1) b d 28 13 ml st t Q = vga ml 0 (fun v => vc xs zH_28 n true d 28 14 ml (.ref v :: st) t Q) := by
  rw [vc_q (o := (2, 0, 0, 0, [])) (by decide +kernel)]; rfl
theorem v_28_14 (xs : Option (List Int32)) (n : Nat) (b : Bool) (d : Nat) (ml : List Value) (t : T) (Q : Option Value → T → Prop) (u : Nat) (r : List Value) : vc xs zH_28 (n + 1) b d 28 14 ml (.ref u :: r) t Q = (vtag u = 0 ∧ vc xs zH_28 n true d 28 17 ml (.ref (tref t u 9) :: r) t Q) := by
  rw [vc_q (o := (25, 0, 0, 9, [])) (by decide +kernel)]; rfl
theorem v_28_17 (xs : Option (List Int32)) (n : Nat) (b : Bool) (d : Nat) (ml : List Value) (t : T) (Q : Option Value → T → Prop) (st : List Value) : vc xs zH_28 (n + 1) b d 28 17 ml st t Q = vgi ml 1 (fun v => vc xs zH_28 n true d 28 18 ml (.int v :: st) t Q) := by
  rw [vc_q (o := (1, 0, 1, 0, [])) (by decide +kernel)]; rfl
theorem v_28_18 (xs : Option (List Int32)) (n : Nat) (b : Bool) (d : Nat) (ml : List Value) (t : T) (Q : Option Value → T → Prop) (v : Int32) (u : Nat) (r : List Value) : vc xs zH_28 (n + 1) b d 28 18 ml (.int v :: .ref u :: r) t Q = (103 ≤ vtag u ∧ vtag u < 108 ∧ vinb v (vlen u) ∧ vc xs zH_28 n true d 28 19 ml (.ref (tref t u v.toNatClampNeg) :: r) t Q) := by
  rw [vc_q (o := (31, 0, 0, 0, [])) (by decide +kernel)]; rfl
theorem v_28_19 (xs : Option (List Int32)) (n : Nat) (b : Bool) (d : Nat) (ml : List Value) (t : T) (Q : Option Value → T → Prop) (u : Nat) (r : List Value) : vc xs zH_28 (n + 1) b d 28 19 ml (.ref u :: r) t Q = (vtag u = 8 ∧ vc xs zH_28 n true d 28 22 ml (.int (t.1 u 1) :: r) t Q) := by
  rw [vc_q (o := (24, 0, 8, 1, [])) (by decide +kernel)]; rfl
theorem v_28_22 (xs : Option (List Int32)) (n : Nat) (b : Bool) (d : Nat) (ml : List Value) (t : T) (Q : Option Value → T → Prop) (u v : Int32) (r : List Value) : vc xs zH_28 (n + 1) b d 28 22 ml (.int v :: .int u :: r) t Q = (if u < v then vc xs zH_28 n true d 28 25 ml r t Q else vc xs zH_28 n true d 28 27 ml r t Q) := by
  rw [vc_q (o := (20, 0, 27, 3, [])) (by decide +kernel)]; rfl
theorem v_28_25 (xs : Option (List Int32)) (n : Nat) (b : Bool) (d : Nat) (ml : List Value) (t : T) (Q : Option Value → T → Prop) (st : List Value) : vc xs zH_28 (n + 1) b d 28 25 ml st t Q = vgi ml 1 (fun v => vc xs zH_28 n true d 28 26 ml (.int v :: st) t Q) := by
  rw [vc_q (o := (1, 0, 1, 0, [])) (by decide +kernel)]; rfl
theorem v_28_26 (xs : Option (List Int32)) (n : Nat) (b : Bool) (d : Nat) (ml : List Value) (t : T) (Q : Option Value → T → Prop) (v : Int32) : vc xs zH_28 (n + 1) b d 28 26 ml [.int v] t Q = Q (some (.int v)) t := by
  rw [vc_q (o := (40, 0, 0, 0, [])) (by decide +kernel)]; rfl
theorem v_28_27 (xs : Option (List Int32)) (n : Nat) (b : Bool) (d : Nat) (ml : List Value) (t : T) (Q : Option Value → T → Prop) (st : List Value) : vc xs zH_28 (n + 1) b d 28 27 ml st t Q = vgi ml 1 (fun v => vset ml 1 (.int (v + 1)) (fun l => vc xs zH_28 n true d 28 30 l st t Q)) := by
  rw [vc_q (o := (5, 1, 1, 0, [])) (by decide +kernel)]; rfl
theorem v_28_30 (xs : Option (List Int32)) (n : Nat) (b : Bool) (d : Nat) (ml : List Value) (t : T) (Q : Option Value → T → Prop) (st : List Value) : vc xs zH_28 (n + 1) b d 28 30 ml st t Q = vc xs zH_28 n true d 28 2 ml st t Q := by
  rw [vc_q (o := (22, 0, 2, 0, [])) (by decide +kernel)]; rfl
theorem v_28_33 (xs : Option (List Int32)) (n : Nat) (b : Bool) (d : Nat) (ml : List Value) (t : T) (Q : Option Value → T → Prop) (st : List Value) : vc xs zH_28 (n + 1) b d 28 33 ml st t Q = vc xs zH_28 n true d 28 34 ml (.int (-1) :: st) t Q := by
  rw [vc_q (o := (0, (-1), 0, 0, [])) (by decide +kernel)]; rfl
theorem v_28_34 (xs : Option (List Int32)) (n : Nat) (b : Bool) (d : Nat) (ml : List Value) (t : T) (Q : Option Value → T → Prop) (v : Int32) : vc xs zH_28 (n + 1) b d 28 34 ml [.int v] t Q = Q (some (.int v)) t := by
  rw [vc_q (o := (40, 0, 0, 0, [])) (by decide +kernel)]; rfl
def zH_29 : List Nat := [29]
theorem v_29_0 (xs : Option (List Int32)) (n : Nat) (b : Bool) (d : Nat) (ml : List Value) (t : T) (Q : Option Value → T → Prop) (st : List Value) : vc xs zH_29 (n + 1) b d 29 0 ml st t Q = vga ml 0 (fun v => vc xs zH_29 n true d 29 1 ml (.ref v :: st) t Q) := by
  rw [vc_q (o := (2, 0, 0, 0, [])) (by decide +kernel)]; rfl
theorem v_29_1 (xs : Option (List Int32)) (n : Nat) (b : Bool) (d : Nat) (ml : List Value) (t : T) (Q : Option Value → T → Prop) (u : Nat) (r : List Value) : vc xs zH_29 (n + 1) b d 29 1 ml (.ref u :: r) t Q = (vtag u = 0 ∧ vc xs zH_29 n true d 29 4 ml (.ref (tref t u 9) :: r) t Q) := by
  rw [vc_q (o := (25, 0, 0, 9, [])) (by decide +kernel)]; rfl
theorem v_29_4 (xs : Option (List Int32)) (n : Nat) (b : Bool) (d : Nat) (ml : List Value) (t : T) (Q : Option Value → T → Prop) (st : List Value) : vc xs zH_29 (n + 1) b d 29 4 ml st t Q = vgi ml 1 (fun v => vc xs zH_29 n true d 29 5 ml (.int v :: st) t Q) := by
  rw [vc_q (o := (1, 0, 1, 0, [])) (by decide +kernel)]; rfl
theorem v_29_5 (xs : Option (List Int32)) (n : Nat) (b : Bool) (d : Nat) (ml : List Value) (t : T) (Q : Option Value → T → Prop) (v : Int32) (u : Nat) (r : List Value) : vc xs zH_29 (n + 1) b d 29 5 ml (.int v :: .ref u :: r) t Q = (103 ≤ vtag u ∧ vtag u < 108 ∧ vinb v (vlen u) ∧ vc xs zH_29 n true d 29 6 ml (.ref (tref t u v.toNatClampNeg) :: r) t Q) := by
  rw [vc_q (o := (31, 0, 0, 0, [])) (by decide +kernel)]; rfl
theorem v_29_6 (xs : Option (List Int32)) (n : Nat) (b : Bool) (d : Nat) (ml : List Value) (t : T) (Q : Option Value → T → Prop) (u : Nat) (r : List Value) : vc xs zH_29 (n + 1) b d 29 6 ml (.ref u :: r) t Q = (vtag u = 8 ∧ vc xs zH_29 n true d 29 9 ml (.ref (tref t u 0) :: r) t Q) := by
  rw [vc_q (o := (25, 0, 8, 0, [])) (by decide +kernel)]; rfl
theorem v_29_9 (xs : Option (List Int32)) (n : Nat) (b : Bool) (d : Nat) (ml : List Value) (t : T) (Q : Option Value → T → Prop) (st : List Value) : vc xs zH_29 (n + 1) b d 29 9 ml st t Q = vga ml 0 (fun v => vc xs zH_29 n true d 29 10 ml (.ref v :: st) t Q) := by
  rw [vc_q (o := (2, 0, 0, 0, [])) (by decide +kernel)]; rfl
theorem v_29_10 (xs : Option (List Int32)) (n : Nat) (b : Bool) (d : Nat) (ml : List Value) (t : T) (Q : Option Value → T → Prop) (u : Nat) (r : List Value) : vc xs zH_29 (n + 1) b d 29 10 ml (.ref u :: r) t Q = (vtag u = 0 ∧ vc xs zH_29 n true d 29 13 ml (.ref (tref t u 10) :: r) t Q) := by
  rw [vc_q (o := (25, 0, 0, 10, [])) (by decide +kernel)]; rfl
theorem v_29_13 (xs : Option (List Int32)) (n : Nat) (b : Bool) (d : Nat) (ml : List Value) (t : T) (Q : Option Value → T → Prop) (st : List Value) : vc xs zH_29 (n + 1) b d 29 13 ml st t Q = vgi ml 1 (fun v => vc xs zH_29 n true d 29 14 ml (.int v :: st) t Q) := by
  rw [vc_q (o := (1, 0, 1, 0, [])) (by decide +kernel)]; rfl
theorem v_29_14 (xs : Option (List Int32)) (n : Nat) (b : Bool) (d : Nat) (ml : List Value) (t : T) (Q : Option Value → T → Prop) (v : Int32) (u : Nat) (r : List Value) : vc xs zH_29 (n + 1) b d 29 14 ml (.int v :: .ref u :: r) t Q = (vtag u = 100 ∧ vinb v (vlen u) ∧ vc xs zH_29 n true d 29 15 ml (.int (t.1 u v.toNatClampNeg) :: r) t Q) := by
  rw [vc_q (o := (29, 0, 0, 0, [])) (by decide +kernel)]; rfl
theorem v_29_15 (xs : Option (List Int32)) (n : Nat) (b : Bool) (d : Nat) (ml : List Value) (t : T) (Q : Option Value → T → Prop) (v : Int32) (u : Nat) (r : List Value) : vc xs zH_29 (n + 1) b d 29 15 ml (.int v :: .ref u :: r) t Q = (103 ≤ vtag u ∧ vtag u < 108 ∧ vinb v (vlen u) ∧ vc xs zH_29 n true d 29 16 ml (.ref (tref t u v.toNatClampNeg) :: r) t Q) := by
  rw [vc_q (o := (31, 0, 0, 0, [])) (by decide +kernel)]; rfl
theorem v_29_16 (xs : Option (List Int32)) (n : Nat) (b : Bool) (d : Nat) (ml : List Value) (t : T) (Q : Option Value → T → Prop) (v : Nat) (r : List Value) : vc xs zH_29 (n + 1) b d 29 16 ml (.ref v :: r) t Q = vset ml 2 (.ref v) (fun l => vc xs zH_29 n true d 29 17 l r t Q) := by
  rw [vc_q (o := (4, 0, 2, 0, [])) (by decide +kernel)]; rfl
theorem v_29_17 (xs : Option (List Int32)) (n : Nat) (b : Bool) (d : Nat) (ml : List Value) (t : T) (Q : Option Value → T → Prop) (st : List Value) : vc xs zH_29 (n + 1) b d 29 17 ml st t Q = vga ml 0 (fun v => vc xs zH_29 n true d 29 18 ml (.ref v :: st) t Q) := by
  rw [vc_q (o := (2, 0, 0, 0, [])) (by decide +kernel)]; rfl
theorem v_29_18 (xs : Option (List Int32)) (n : Nat) (b : Bool) (d : Nat) (ml : List Value) (t : T) (Q : Option Value → T → Prop) (u : Nat) (r : List Value) : vc xs zH_29 (n + 1) b d 29 18 ml (.ref u :: r) t Q = (vtag u = 0 ∧ vc xs zH_29 n true d 29 21 ml (.ref (tref t u 10) :: r) t Q) := by
  rw [vc_q (o := (25, 0, 0, 10, [])) (by decide +kernel)]; rfl
theorem v_29_21 (xs : Option (List Int32)) (n : Nat) (b : Bool) (d : Nat) (ml : List Value) (t : T) (Q : Option Value → T → Prop) (st : List Value) : vc xs zH_29 (n + 1) b d 29 21 ml st t Q = vgi ml 1 (fun v => vc xs zH_29 n true d 29 22 ml (.int v :: st) t Q) := by
  rw [vc_q (o := (1, 0, 1, 0, [])) (by decide +kernel)]; rfl
theorem v_29_22 (xs : Option (List Int32)) (n : Nat) (b : Bool) (d : Nat) (ml : List Value) (t : T) (Q : Option Value → T → Prop) (v : Int32) (u : Nat) (r : List Value) : vc xs zH_29 (n + 1) b d 29 22 ml (.int v :: .ref u :: r) t Q = vc xs zH_29 n true d 29 23 ml (.int v :: .ref u :: .int v :: .ref u :: r) t Q := by
  rw [vc_q (o := (18, 0, 0, 0, [])) (by decide +kernel)]; rfl
theorem v_29_23 (xs : Option (List Int32)) (n : Nat) (b : Bool) (d : Nat) (ml : List Value) (t : T) (Q : Option Value → T → Prop) (v : Int32) (u : Nat) (r : List Value) : vc xs zH_29 (n + 1) b d 29 23 ml (.int v :: .ref u :: r) t Q = (vtag u = 100 ∧ vinb v (vlen u) ∧ vc xs zH_29 n true d 29 24 ml (.int (t.1 u v.toNatClampNeg) :: r) t Q) := by
  rw [vc_q (o := (29, 0, 0, 0, [])) (by decide +kernel)]; rfl
theorem v_29_24 (xs : Option (List Int32)) (n : Nat) (b : Bool) (d : Nat) (ml : List Value) (t : T) (Q : Option Value → T → Prop) (st : List Value) : vc xs zH_29 (n + 1) b d 29 24 ml st t Q = vc xs zH_29 n true d 29 25 ml (.int 1 :: st) t Q := by
  rw [vc_q (o := (0, 1, 0, 0, [])) (by decide +kernel)]; rfl
theorem v_29_25 (xs : Option (List Int32)) (n : Nat) (b : Bool) (d : Nat) (ml : List Value) (t : T) (Q : Option Value → T → Prop) (u v : Int32) (r : List Value) : vc xs zH_29 (n + 1) b d 29 25 ml (.int v :: .int u :: r) t Q = vc xs zH_29 n true d 29 26 ml (.int (u + v) :: r) t Q := by
  rw [vc_q (o := (6, 0, 0, 0, [])) (by decide +kernel)]; rfl
theorem v_29_26 (xs : Option (List Int32)) (n : Nat) (b : Bool) (d : Nat) (ml : List Value) (t : T) (Q : Option Value → T → Prop) (w v : Int32) (u : Nat) (r : List Value) : vc xs zH_29 (n + 1) b d 29 26 ml (.int w :: .int v :: .ref u :: r) t Q = (vtag u = 100 ∧ vinb v (vlen u) ∧ vc xs zH_29 n true d 29 27 ml r (tsi t u v.toNatClampNeg w) Q) := by
  rw [vc_q (o := (32, 0, 0, 0, [])) (by decide +kernel)]; rfl
theorem v_29_27 (xs : Option (List Int32)) (n : Nat) (b : Bool) (d : Nat) (ml : List Value) (t : T) (Q : Option Value → T → Prop) (st : List Value) : vc xs zH_29 (n + 1) b d 29 27 ml st t Q = vc xs zH_29 n true d 29 28 ml (.int 0 :: st) t Q := by
  rw [vc_q (o := (0, 0, 0, 0, [])) (by decide +kernel)]; rfl
theorem v_29_28 (xs : Option (List Int32)) (n : Nat) (b : Bool) (d : Nat) (ml : List Value) (t : T) (Q : Option Value → T → Prop) (v : Int32) (r : List Value) : vc xs zH_29 (n + 1) b d 29 28 ml (.int v :: r) t Q = vset ml 3 (.int v) (fun l => vc xs zH_29 n true d 29 29 l r t Q) := by
  rw [vc_q (o := (3, 0, 3, 0, [])) (by decide +kernel)]; rfl
theorem v_29_29 (xs : Option (List Int32)) (n : Nat) (d : Nat) (ml : List Value) (t : T) (Q : Option Value → T → Prop) (st : List Value) : vc xs zH_29 (n + 1) false d 29 29 ml st t Q = vgi ml 3 (fun v => vc xs zH_29 n true d 29 30 ml (.int v :: st) t Q) := by
  rw [vc_q (o := (1, 0, 3, 0, [])) (by decide +kernel)]; rfl
theorem h_29_29 (xs : Option (List Int32)) (n d : Nat) (ml st : List Value) (t : T) (Q : Option Value → T → Prop) : vc xs zH_29 (n + 1) true d 29 29 ml st t Q = twp xs d 29 29 ml st t Q := id rfl
theorem v_29_30 (xs : Option (List Int32)) (n : Nat) (b : Bool) (d : Nat) (ml : List Value) (t : T) (Q : Option Value → T → Prop) (st : List Value) : vc xs zH_29 (n + 1) b d 29 30 ml st t Q = vga ml 0 (fun v => vc xs zH_29 n true d 29 31 ml (.ref v :: st) t Q) := by
  rw [vc_q (o := (2, 0, 0, 0, [])) (by decide +kernel)]; rfl
theorem v_29_31 (xs : Option (List Int32)) (n : Nat) (b : Bool) (d : Nat) (ml : List Value) (t : T) (Q : Option Value → T → Prop) (u : Nat) (r : List Value) : vc xs zH_29 (n + 1) b d 29 31 ml (.ref u :: r) t Q = (vtag u = 0 ∧ vc xs zH_29 n true d 29 34 ml (.int (t.1 u 13) :: r) t Q) := by
  rw [vc_q (o := (24, 0, 0, 13, [])) (by decide +kernel)]; rfl
theorem v_29_34 (xs : Option (List Int32)) (n : Nat) (b : Bool) (d : Nat) (ml : List Value) (t : T) (Q : Option Value → T → Prop) (u v : Int32) (r : List Value) : vc xs zH_29 (n + 1) b d 29 34 ml (.int v :: .int u :: r) t Q = (if u < v then vc xs zH_29 n true d 29 37 ml r t Q else vc xs zH_29 n true d 29 92 ml r t Q) := by
  rw [vc_q (o := (20, 0, 92, 3, [])) (by decide +kernel)]; rfl
theorem v_29_37 (xs : Option (List Int32)) (n : Nat) (b : Bool) (d : Nat) (ml : List Value) (t : T) (Q : Option Value → T → Prop) (st : List Value) : vc xs zH_29 (n + 1) b d 29 37 ml st t Q = vga ml 0 (fun v => vc xs zH_29 n true d 29 38 ml (.ref v :: st) t Q) := by
  rw [vc_q (o := (2, 0, 0, 0, [])) (by decide +kernel)]; rfl
theorem v_29_38 (xs : Option (List Int32)) (n : Nat) (b : Bool) (d : Nat) (ml : List Value) (t : T) (Q : Option Value → T → Prop) (u : Nat) (r : List Value) : vc xs zH_29 (n + 1) b d 29 38 ml (.ref u :: r) t Q = (vtag u = 0 ∧ vc xs zH_29 n true d 29 41 ml (.ref (tref t u 4) :: r) t Q) := by
  rw [vc_q (o := (25, 0, 0, 4, [])) (by decide +kernel)]; rfl
theorem v_29_41 (xs : Option (List Int32)) (n : Nat) (b : Bool) (d : Nat) (ml : List Value) (t : T) (Q : Option Value → T → Prop) (st : List Value) : vc xs zH_29 (n + 1) b d 29 41 ml st t Q = vgi ml 3 (fun v => vc xs zH_29 n true d 29 42 ml (.int v :: st) t Q) := by
  rw [vc_q (o := (1, 0, 3, 0, [])) (by decide +kernel)]; rfl
theorem v_29_42 (xs : Option (List Int32)) (n : Nat) (b : Bool) (d : Nat) (ml : List Value) (t : T) (Q : Option Value → T → Prop) (v : Int32) (u : Nat) (r : List Value) : vc xs zH_29 (n + 1) b d 29 42 ml (.int v :: .ref u :: r) t Q = (103 ≤ vtag u ∧ vtag u < 108 ∧ vinb v (vlen u) ∧ vc xs zH_29 n true d 29 43 ml (.ref (tref t u v.toNatClampNeg) :: r) t Q) := by
  rw [vc_q (o := (31, 0, 0, 0, [])) (by decide +kernel)]; rfl
theorem v_29_43 (xs : Option (List Int32)) (n : Nat) (b : Bool) (d : Nat) (ml : List Value) (t : T) (Q : Option Value → T → Prop) (v : Nat) (r : List Value) : vc xs zH_29 (n + 1) b d 29 43 ml (.ref v :: r) t Q = vset ml 4 (.ref v) (fun l => vc xs zH_29 n true d 29 45 l r t Q) := by
  rw [vc_q (o := (4, 0, 4, 1, [])) (by decide +kernel)]; rfl
theorem v_29_45 (xs : Option (List Int32)) (n : Nat) (b : Bool) (d : Nat) (ml : List Value) (t : T) (Q : Option Value → T → Prop) (st : List Value) : vc xs zH_29 (n + 1) b d 29 45 ml st t Q = vga ml 4 (fun v => vc xs zH_29 n true d 29 47 ml (.ref v :: st) t Q) := by
  rw [vc_q (o := (2, 0, 4, 1, [])) (by decide +kernel)]; rfl
theorem v_29_47 (xs : Option (List Int32)) (n : Nat) (b : Bool) (d : Nat) (ml : List Value) (t : T) (Q : Option Value → T → Prop) (u : Nat) (r : List Value) : vc xs zH_29 (n + 1) b d 29 47 ml (.ref u :: r) t Q = (vtag u = 11 ∧ vc xs zH_29 n true d 29 50 ml (.int (t.1 u 0) :: r) t Q) := by
  rw [vc_q (o := (24, 0, 11, 0, [])) (by decide +kernel)]; rfl
theorem v_29_50 (xs : Option (List Int32)) (n : Nat) (b : Bool) (d : Nat) (ml : List Value) (t : T) (Q : Option Value → T → Prop) (st : List Value) : vc xs zH_29 (n + 1) b d 29 50 ml st t Q = vgi ml 1 (fun v => vc xs zH_29 n true d 29 51 ml (.int v :: st) t Q) := by
  rw [vc_q (o := (1, 0, 1, 0, [])) (by decide +kernel)]; rfl
theorem v_29_51 (xs : Option (List Int32)) (n : Nat) (b : Bool) (d : Nat) (ml : List Value) (t : T) (Q : Option Value → T → Prop) (u v : Int32) (r : List Value) : vc xs zH_29 (n + 1) b d 29 51 ml (.int v :: .int u :: r) t Q = (if u = v then vc xs zH_29 n true d 29 54 ml r t Q else vc xs zH_29 n true d 29 86 ml r t Q) := by
  rw [vc_q (o := (20, 0, 86, 1, [])) (by decide +kernel)]; rfl
theorem v_29_54 (xs : Option (List Int32)) (n : Nat) (b : Bool) (d : Nat) (ml : List Value) (t : T) (Q : Option Value → T → Prop) (st : List Value) : vc xs zH_29 (n + 1) b d 29 54 ml st t Q = vga ml 0 (fun v => vc xs zH_29 n true d 29 55 ml (.ref v :: st) t Q) := by
  rw [vc_q (o := (2, 0, 0, 0, [])) (by decide +kernel)]; rfl
theorem v_29_55 (xs : Option (List Int32)) (n : Nat) (b : Bool) (d : Nat) (ml : List Value) (t : T) (Q : Option Value → T → Prop) (u : Nat) (r : List Value) : vc xs zH_29 (n + 1) b d 29 55 ml (.ref u :: r) t Q = (vtag u = 0 ∧ vc xs zH_29 n true d 29 58 ml (.ref (tref t u 5) :: r) t Q) := by
  rw [vc_q (o := (25, 0, 0, 5, [])) (by decide +kernel)]; rfl
theorem v_29_58 (xs : Option (List Int32)) (n : Nat) (b : Bool) (d : Nat) (ml : List Value) (t : T) (Q : Option Value → T → Prop) (st : List Value) : vc xs zH_29 (n + 1) b d 29 58 ml st t Q = vga ml 4 (fun v => vc xs zH_29 n true d 29 60 ml (.ref v :: st) t Q) := by
  rw [vc_q (o := (2, 0, 4, 1, [])) (by decide +kernel)]; rfl
theorem v_29_60 (xs : Option (List Int32)) (n : Nat) (b : Bool) (d : Nat) (ml : List Value) (t : T) (Q : Option Value → T → Prop) (st : List Value) : vc xs zH_29 (n + 1) b d 29 60 ml st t Q = vga ml 2 (fun v => vc xs zH_29 n true d 29 61 ml (.ref v :: st) t Q) := by
  rw [vc_q (o := (2, 0, 2, 0, [])) (by decide +kernel)]; rfl
theorem v_29_61 (xs : Option (List Int32)) (n : Nat) (b : Bool) (d : Nat) (ml : List Value) (t : T) (Q : Option Value → T → Prop) (st : List Value) : vc xs zH_29 (n + 1) b d 29 61 ml st t Q = (st.all zc1 = true ∧ vtk 3 st [] (fun as rest => rest.length ≤ 8 ∧ vrc as 7 (twc d 147 as t (fun r t' => vc xs zH_29 n true d 29 64 ml (r.toList ++ rest) t' Q)))) := by
  rw [vc_q (o := (36, 0, 147, 2, [(0, 7)])) (by decide +kernel)]; rfl
theorem v_29_64 (xs : Option (List Int32)) (n : Nat) (b : Bool) (d : Nat) (ml : List Value) (t : T) (Q : Option Value → T → Prop) (u : Int32) (r : List Value) : vc xs zH_29 (n + 1) b d 29 64 ml (.int u :: r) t Q = (if u = 0 then vc xs zH_29 n true d 29 84 ml r t Q else vc xs zH_29 n true d 29 67 ml r t Q) := by
  rw [vc_q (o := (21, 0, 84, 0, [])) (by decide +kernel)]; rfl
theorem v_29_67 (xs : Option (List Int32)) (n : Nat) (b : Bool) (d : Nat) (ml : List Value) (t : T) (Q : Option Value → T → Prop) (st : List Value) : vc xs zH_29 (n + 1) b d 29 67 ml st t Q = vga ml 0 (fun v => vc xs zH_29 n true d 29 68 ml (.ref v :: st) t Q) := by
  rw [vc_q (o := (2, 0, 0, 0, [])) (by decide +kernel)]; rfl
theorem v_29_68 (xs : Option (List Int32)) (n : Nat) (b : Bool) (d : Nat) (ml : List Value) (t : T) (Q : Option Value → T → Prop) (st : List Value) : vc xs zH_29 (n + 1) b d 29 68 ml st t Q = vga ml 0 (fun v => vc xs zH_29 n true d 29 69 ml (.ref v :: st) t Q) := by
  rw [vc_q (o := (2, 0, 0, 0, [])) (by decide +kernel)]; rfl
theorem v_29_69 (xs : Option (List Int32)) (n : Nat) (b : Bool) (d : Nat) (ml : List Value) (t : T) (Q : Option Value → T → Prop) (u : Nat) (r : List Value) : vc xs zH_29 (n + 1) b d 29 69 ml (.ref u :: r) t Q = (vtag u = 0 ∧ vc xs zH_29 n true d 29 72 ml (.ref (tref t u 9) :: r) t Q) := by
  rw [vc_q (o := (25, 0, 0, 9, [])) (by decide +kernel)]; rfl
theorem v_29_72 (xs : Option (List Int32)) (n : Nat) (b : Bool) (d : Nat) (ml : List Value) (t : T) (Q : Option Value → T → Prop) (st : List Value) : vc xs zH_29 (n + 1) b d 29 72 ml st t Q = vga ml 4 (fun v => vc xs zH_29 n true d 29 74 ml (.ref v :: st) t Q) := by
  rw [vc_q (o := (2, 0, 4, 1, [])) (by decide +kernel)]; rfl
theorem v_29_74 (xs : Option (List Int32)) (n : Nat) (b : Bool) (d : Nat) (ml : List Value) (t : T) (Q : Option Value → T → Prop) (u : Nat) (r : List Value) : vc xs zH_29 (n + 1) b d 29 74 ml (.ref u :: r) t Q = (vtag u = 11 ∧ vc xs zH_29 n true d 29 77 ml (.int (t.1 u 1) :: r) t Q) := by
  rw [vc_q (o := (24, 0, 11, 1, [])) (by decide +kernel)]; rfl
theorem v_29_77 (xs : Option (List Int32)) (n : Nat) (b : Bool) (d : Nat) (ml : List Value) (t : T) (Q : Option Value → T → Prop) (v : Int32) (u : Nat) (r : List Value) : vc xs zH_29 (n + 1) b d 29 77 ml (.int v :: .ref u :: r) t Q = (103 ≤ vtag u ∧ vtag u < 108 ∧ vinb v (vlen u) ∧ vc xs zH_29 n true d 29 78 ml (.ref (tref t u v.toNatClampNeg) :: r) t Q) := by
  rw [vc_q (o := (31, 0, 0, 0, [])) (by decide +kernel)]; rfl
theorem v_29_78 (xs : Option (List Int32)) (n : Nat) (b : Bool) (d : Nat) (ml : List Value) (t : T) (Q : Option Value → T → Prop) (st : List Value) : vc xs zH_29 (n + 1) b d 29 78 ml st t Q = (st.all zc1 = true ∧ vtk 2 st [] (fun as rest => rest.length ≤ 8 ∧ vrc as 0 (twc d 30 as t (fun r t' => vc xs zH_29 n true d 29 81 ml (r.toList ++ rest) t' Q)))) := by
  rw [vc_q (o := (36, 0, 30, 1, [(0, 0)])) (by decide +kernel)]; rfl
theorem v_29_81 (xs : Option (List Int32)) (n : Nat) (b : Bool) (d : Nat) (ml : List Value) (t : T) (Q : Option Value → T → Prop) (u : Int32) (r : List Value) : vc xs zH_29 (n + 1) b d 29 81 ml (.int u :: r) t Q = (if u = 0 then vc xs zH_29 n true d 29 84 ml r t Q else vc xs zH_29 n true d 29 86 ml r t Q) := by
  rw [vc_q (o := (21, 0, 86, 1, [])) (by decide +kernel)]; rfl
theorem v_29_84 (xs : Option (List Int32)) (n : Nat) (b : Bool) (d : Nat) (ml : List Value) (t : T) (Q : Option Value → T → Prop) (st : List Value) : vc xs zH_29 (n + 1) b d 29 84 ml st t Q = vc xs zH_29 n true d 29 85 ml (.int 0 :: st) t Q := by
  rw [vc_q (o := (0, 0, 0, 0, [])) (by decide +kernel)]; rfl
theorem v_29_85 (xs : Option (List Int32)) (n : Nat) (b : Bool) (d : Nat) (ml : List Value) (t : T) (Q : Option Value → T → Prop) (v : Int32) : vc xs zH_29 (n + 1) b d 29 85 ml [.int v] t Q = ((v = 0 ∨ v = 1) ∧ Q (some (.int v)) t) := by
  rw [vc_q (o := (41, 0, 0, 0, [])) (by decide +kernel)]; rfl
theorem v_29_86 (xs : Option (List Int32)) (n : Nat) (b : Bool) (d : Nat) (ml : List Value) (t : T) (Q : Option Value → T → Prop) (st : List Value) : vc xs zH_29 (n + 1) b d 29 86 ml st t Q = vgi ml 3 (fun v => vset ml 3 (.int (v + 1)) (fun l => vc xs zH_29 n true d 29 89 l st t Q)) := by
  rw [vc_q (o := (5, 1, 3, 0, [])) (by decide +kernel)]; rfl
theorem v_29_89 (xs : Option (List Int32)) (n : Nat) (b : Bool) (d : Nat) (ml : List Value) (t : T) (Q : Option Value → T → Prop) (st : List Value) : vc xs zH_29 (n + 1) b d 29 89 ml st t Q = vc xs zH_29 n true d 29 29 ml st t Q := by
  rw [vc_q (o := (22, 0, 29, 0, [])) (by decide +kernel)]; rfl
theorem v_29_92 (xs : Option (List Int32)) (n : Nat) (b : Bool) (d : Nat) (ml : List Value) (t : T) (Q : Option Value → T → Prop) (st : List Value) : vc xs zH_29 (n + 1) b d 29 92 ml st t Q = vc xs zH_29 n true d 29 93 ml (.int 1 :: st) t Q := by
  rw [vc_q (o := (0, 1, 0, 0, [])) (by decide +kernel)]; rfl
theorem v_29_93 (xs : Option (List Int32)) (n : Nat) (b : Bool) (d : Nat) (ml : List Value) (t : T) (Q : Option Value → T → Prop) (v : Int32) : vc xs zH_29 (n + 1) b d 29 93 ml [.int v] t Q = ((v = 0 ∨ v = 1) ∧ Q (some (.int v)) t) := by
  rw [vc_q (o := (41, 0, 0, 0, [])) (by decide +kernel)]; rfl
def zH_30 : List Nat := [10]
theorem v_30_0 (xs : Option (List Int32)) (n : Nat) (b : Bool) (d : Nat) (ml : List Value) (t : T) (Q : Option Value → T → Prop) (st : List Value) : vc xs zH_30 (n + 1) b d 30 0 ml st t Q = vga ml 0 (fun v => vc xs zH_30 n true d 30 1 ml (.ref v :: st) t Q) := by
  rw [vc_q (o := (2, 0, 0, 0, [])) (by decide +kernel)]; rfl
theorem v_30_1 (xs : Option (List Int32)) (n : Nat) (b : Bool) (d : Nat) (ml : List Value) (t : T) (Q : Option Value → T → Prop) (u : Nat) (r : List Value) : vc xs zH_30 (n + 1) b d 30 1 ml (.ref u :: r) t Q = (vtag u = 0 ∧ vc xs zH_30 n true d 30 4 ml (.ref (tref t u 5) :: r) t Q) := by
  rw [vc_q (o := (25, 0, 0, 5, [])) (by decide +kernel)]; rfl
theorem v_30_4 (xs : Option (List Int32)) (n : Nat) (b : Bool) (d : Nat) (ml : List Value) (t : T) (Q : Option Value → T → Prop) (u : Nat) (r : List Value) : vc xs zH_30 (n + 1) b d 30 4 ml (.ref u :: r) t Q = (vtag u = 7 ∧ vc xs zH_30 n true d 30 7 ml (.ref (tref t u 3) :: r) t Q) := by
  rw [vc_q (o := (25, 0, 7, 3, [])) (by decide +kernel)]; rfl
theorem v_30_7 (xs : Option (List Int32)) (n : Nat) (b : Bool) (d : Nat) (ml : List Value) (t : T) (Q : Option Value → T → Prop) (v : Nat) (r : List Value) : vc xs zH_30 (n + 1) b d 30 7 ml (.ref v :: r) t Q = vset ml 2 (.ref v) (fun l => vc xs zH_30 n true d 30 8 l r t Q) := by
  rw [vc_q (o := (4, 0, 2, 0, [])) (by decide +kernel)]; rfl
theorem v_30_8 (xs : Option (List Int32)) (n : Nat) (b : Bool) (d : Nat) (ml : List Value) (t : T) (Q : Option Value → T → Prop) (st : List Value) : vc xs zH_30 (n + 1) b d 30 8 ml st t Q = vc xs zH_30 n true d 30 9 ml (.int 0 :: st) t Q := by
  rw [vc_q (o := (0, 0, 0, 0, [])) (by decide +kernel)]; rfl
theorem v_30_9 (xs : Option (List Int32)) (n : Nat) (b : Bool) (d : Nat) (ml : List Value) (t : T) (Q : Option Value → T → Prop) (v : Int32) (r : List Value) : vc xs zH_30 (n + 1) b d 30 9 ml (.int v :: r) t Q = vset ml 3 (.int v) (fun l => vc xs zH_30 n true d 30 10 l r t Q) := by
  rw [vc_q (o := (3, 0, 3, 0, [])) (by decide +kernel)]; rfl
theorem v_30_10 (xs : Option (List Int32)) (n : Nat) (d : Nat) (ml : List Value) (t : T) (Q : Option Value → T → Prop) (st : List Value) : vc xs zH_30 (n + 1) false d 30 10 ml st t Q = vgi ml 3 (fun v => vc xs zH_30 n true d 30 11 ml (.int v :: st) t Q) := by
  rw [vc_q (o := (1, 0, 3, 0, [])) (by decide +kernel)]; rfl
theorem h_30_10 (xs : Option (List Int32)) (n d : Nat) (ml st : List Value) (t : T) (Q : Option Value → T → Prop) : vc xs zH_30 (n + 1) true d 30 10 ml st t Q = twp xs d 30 10 ml st t Q := id rfl
theorem v_30_11 (xs : Option (List Int32)) (n : Nat) (b : Bool) (d : Nat) (ml : List Value) (t : T) (Q : Option Value → T → Prop) (st : List Value) : vc xs zH_30 (n + 1) b d 30 11 ml st t Q = vga ml 2 (fun v => vc xs zH_30 n true d 30 12 ml (.ref v :: st) t Q) := by
  rw [vc_q (o := (2, 0, 2, 0, [])) (by decide +kernel)]; rfl
theorem v_30_12 (xs : Option (List Int32)) (n : Nat) (b : Bool) (d : Nat) (ml : List Value) (t : T) (Q : Option Value → T → Prop) (u : Nat) (r : List Value) : vc xs zH_30 (n + 1) b d 30 12 ml (.ref u :: r) t Q = (vtag u = 8 ∧ vc xs zH_30 n true d 30 15 ml (.int (t.1 u 1) :: r) t Q) := by
  rw [vc_q (o := (24, 0, 8, 1, [])) (by decide +kernel)]; rfl
theorem v_30_15 (xs : Option (List Int32)) (n : Nat) (b : Bool) (d : Nat) (ml : List Value) (t : T) (Q : Option Value → T → Prop) (u v : Int32) (r : List Value) : vc xs zH_30 (n + 1) b d 30 15 ml (.int v :: .int u :: r) t Q = (if u < v then vc xs zH_30 n true d 30 18 ml r t Q else vc xs zH_30 n true d 30 52 ml r t Q) := by
  rw [vc_q (o := (20, 0, 52, 3, [])) (by decide +kernel)]; rfl
theorem v_30_18 (xs : Option (List Int32)) (n : Nat) (b : Bool) (d : Nat) (ml : List Value) (t : T) (Q : Option Value → T → Prop) (st : List Value) : vc xs zH_30 (n + 1) b d 30 18 ml st t Q = vga ml 0 (fun v => vc xs zH_30 n true d 30 19 ml (.ref v :: st) t Q) := by
  rw [vc_q (o := (2, 0, 0, 0, [])) (by decide +kernel)]; rfl
theorem v_30_19 (xs : Option (List Int32)) (n : Nat) (b : Bool) (d : Nat) (ml : List Value) (t : T) (Q : Option Value → T → Prop) (u : Nat) (r : List Value) : vc xs zH_30 (n + 1) b d 30 19 ml (.ref u :: r) t Q = (vtag u = 0 ∧ vc xs zH_30 n true d 30 22 ml (.ref (tref t u 6) :: r) t Q) := by
  rw [vc_q (o := (25, 0, 0, 6, [])) (by decide +kernel)]; rfl
theorem v_30_22 (xs : Option (List Int32)) (n : Nat) (b : Bool) (d : Nat) (ml : List Value) (t : T) (Q : Option Value → T → Prop) (st : List Value) : vc xs zH_30 (n + 1) b d 30 22 ml st t Q = vga ml 2 (fun v => vc xs zH_30 n true d 30 23 ml (.ref v :: st) t Q) := by
  rw [vc_q (o := (2, 0, 2, 0, [])) (by decide +kernel)]; rfl
theorem v_30_23 (xs : Option (List Int32)) (n : Nat) (b : Bool) (d : Nat) (ml : List Value) (t : T) (Q : Option Value → T → Prop) (u : Nat) (r : List Value) : vc xs zH_30 (n + 1) b d 30 23 ml (.ref u :: r) t Q = (vtag u = 8 ∧ vc xs zH_30 n true d 30 26 ml (.ref (tref t u 0) :: r) t Q) := by
  rw [vc_q (o := (25, 0, 8, 0, [])) (by decide +kernel)]; rfl
theorem v_30_26 (xs : Option (List Int32)) (n : Nat) (b : Bool) (d : Nat) (ml : List Value) (t : T) (Q : Option Value → T → Prop) (st : List Value) : vc xs zH_30 (n + 1) b d 30 26 ml st t Q = vgi ml 3 (fun v => vc xs zH_30 n true d 30 27 ml (.int v :: st) t Q) := by
  rw [vc_q (o := (1, 0, 3, 0, [])) (by decide +kernel)]; rfl
theorem v_30_27 (xs : Option (List Int32)) (n : Nat) (b : Bool) (d : Nat) (ml : List Value) (t : T) (Q : Option Value → T → Prop) (v : Int32) (u : Nat) (r : List Value) : vc xs zH_30 (n + 1) b d 30 27 ml (.int v :: .ref u :: r) t Q = (103 ≤ vtag u ∧ vtag u < 108 ∧ vinb v (vlen u) ∧ vc xs zH_30 n true d 30 28 ml (.ref (tref t u v.toNatClampNeg) :: r) t Q) := by
  rw [vc_q (o := (31, 0, 0, 0, [])) (by decide +kernel)]; rfl
theorem v_30_28 (xs : Option (List Int32)) (n : Nat) (b : Bool) (d : Nat) (ml : List Value) (t : T) (Q : Option Value → T → Prop) (st : List Value) : vc xs zH_30 (n + 1) b d 30 28 ml st t Q = (st.all zc1 = true ∧ vtk 2 st [] (fun as rest => rest.length ≤ 8 ∧ vrc as 9 (twc d 141 as t (fun r t' => vc xs zH_30 n true d 30 31 ml (r.toList ++ rest) t' Q)))) := by
  rw [vc_q (o := (36, 0, 141, 1, [(0, 9)])) (by decide +kernel)]; rfl
theorem v_30_31 (xs : Option (List Int32)) (n : Nat) (b : Bool) (d : Nat) (ml : List Value) (t : T) (Q : Option Value → T → Prop) (st : List Value) : vc xs zH_30 (n + 1) b d 30 31 ml st t Q = vga ml 1 (fun v => vc xs zH_30 n true d 30 32 ml (.ref v :: st) t Q) := by
  rw [vc_q (o := (2, 0, 1, 0, [])) (by decide +kernel)]; rfl
theorem v_30_32 (xs : Option (List Int32)) (n : Nat) (b : Bool) (d : Nat) (ml : List Value) (t : T) (Q : Option Value → T → Prop) (st : List Value) : vc xs zH_30 (n + 1) b d 30 32 ml st t Q = vga ml 2 (fun v => vc xs zH_30 n true d 30 33 ml (.ref v :: st) t Q) := by
  rw [vc_q (o := (2, 0, 2, 0, [])) (by decide +kernel)]; rfl
theorem v_30_33 (xs : Option (List Int32)) (n : Nat) (b : Bool) (d : Nat) (ml : List Value) (t : T) (Q : Option Value → T → Prop) (u : Nat) (r : List Value) : vc xs zH_30 (n + 1) b d 30 33 ml (.ref u :: r) t Q = (vtag u = 8 ∧ vc xs zH_30 n true d 30 36 ml (.ref (tref t u 0) :: r) t Q) := by
  rw [vc_q (o := (25, 0, 8, 0, [])) (by decide +kernel)]; rfl
theorem v_30_36 (xs : Option (List Int32)) (n : Nat) (b : Bool) (d : Nat) (ml : List Value) (t : T) (Q : Option Value → T → Prop) (st : List Value) : vc xs zH_30 (n + 1) b d 30 36 ml st t Q = vgi ml 3 (fun v => vc xs zH_30 n true d 30 37 ml (.int v :: st) t Q) := by
  rw [vc_q (o := (1, 0, 3, 0, [])) (by decide +kernel)]; rfl
theorem v_30_37 (xs : Option (List Int32)) (n : Nat) (b : Bool) (d : Nat) (ml : List Value) (t : T) (Q : Option Value → T → Prop) (v : Int32) (u : Nat) (r : List Value) : vc xs zH_30 (n + 1) b d 30 37 ml (.int v :: .ref u :: r) t Q = (103 ≤ vtag u ∧ vtag u < 108 ∧ vinb v (vlen u) ∧ vc xs zH_30 n true d 30 38 ml (.ref (tref t u v.toNatClampNeg) :: r) t Q) := by
  rw [vc_q (o := (31, 0, 0, 0, [])) (by decide +kernel)]; rfl
theorem v_30_38 (xs : Option (List Int32)) (n : Nat) (b : Bool) (d : Nat) (ml : List Value) (t : T) (Q : Option Value → T → Prop) (st : List Value) : vc xs zH_30 (n + 1) b d 30 38 ml st t Q = (st.all zc1 = true ∧ vtk 2 st [] (fun as rest => rest.length ≤ 8 ∧ vrc as 8 (twc d 107 as t (fun r t' => vc xs zH_30 n true d 30 41 ml (r.toList ++ rest) t' Q)))) := by
  rw [vc_q (o := (36, 0, 107, 1, [(0, 8)])) (by decide +kernel)]; rfl
theorem v_30_41 (xs : Option (List Int32)) (n : Nat) (b : Bool) (d : Nat) (ml : List Value) (t : T) (Q : Option Value → T → Prop) (u : Int32) (r : List Value) : vc xs zH_30 (n + 1) b d 30 41 ml (.int u :: r) t Q = (if u = 0 then vc xs zH_30 n true d 30 44 ml r t Q else vc xs zH_30 n true d 30 46 ml r t Q) := by
  rw [vc_q (o := (21, 0, 46, 1, [])) (by decide +kernel)]; rfl
theorem v_30_44 (xs : Option (List Int32)) (n : Nat) (b : Bool) (d : Nat) (ml : List Value) (t : T) (Q : Option Value → T → Prop) (st : List Value) : vc xs zH_30 (n + 1) b d 30 44 ml st t Q = vc xs zH_30 n true d 30 45 ml (.int 0 :: st) t Q := by
  rw [vc_q (o := (0, 0, 0, 0, [])) (by decide +kernel)]; rfl
theorem v_30_45 (xs : Option (List Int32)) (n : Nat) (b : Bool) (d : Nat) (ml : List Value) (t : T) (Q : Option Value → T → Prop) (v : Int32) : vc xs zH_30 (n + 1) b d 30 45 ml [.int v] t Q = ((v = 0 ∨ v = 1) ∧ Q (some (.int v)) t) := by
  rw [vc_q (o := (41, 0, 0, 0, [])) (by decide +kernel)]; rfl
theorem v_30_46 (xs : Option (List Int32)) (n : Nat) (b : Bool) (d : Nat) (ml : List Value) (t : T) (Q : Option Value → T → Prop) (st : List Value) : vc xs zH_30 (n + 1) b d 30 46 ml st t Q = vgi ml 3 (fun v => vset ml 3 (.int (v + 1)) (fun l => vc xs zH_30 n true d 30 49 l st t Q)) := by
  rw [vc_q (o := (5, 1, 3, 0, [])) (by decide +kernel)]; rfl
theorem v_30_49 (xs : Option (List Int32)) (n : Nat) (b : Bool) (d : Nat) (ml : List Value) (t : T) (Q : Option Value → T → Prop) (st : List Value) : vc xs zH_30 (n + 1) b d 30 49 ml st t Q = vc xs zH_30 n true d 30 10 ml st t Q := by
  rw [vc_q (o := (22, 0, 10, 0, [])) (by decide +kernel)]; rfl
theorem v_30_52 (xs : Option (List Int32)) (n : Nat) (b : Bool) (d : Nat) (ml : List Value) (t : T) (Q : Option Value → T → Prop) (st : List Value) : vc xs zH_30 (n + 1) b d 30 52 ml st t Q = vc xs zH_30 n true d 30 53 ml (.int 1 :: st) t Q := by
  rw [vc_q (o := (0, 1, 0, 0, [])) (by decide +kernel)]; rfl
theorem v_30_53 (xs : Option (List Int32)) (n : Nat) (b : Bool) (d : Nat) (ml : List Value) (t : T) (Q : Option Value → T → Prop) (v : Int32) : vc xs zH_30 (n + 1) b d 30 53 ml [.int v] t Q = ((v = 0 ∨ v = 1) ∧ Q (some (.int v)) t) := by
  rw [vc_q (o := (41, 0, 0, 0, [])) (by decide +kernel)]; rfl
def zH_31 : List Nat := [4]
theorem v_31_0 (xs : Option (List Int32)) (n : Nat) (b : Bool) (d : Nat) (ml : List Value) (t : T) (Q : Option Value → T → Prop) (st : List Value) : vc xs zH_31 (n + 1) b d 31 0 ml st t Q = vc xs zH_31 n true d 31 1 ml (.int 0 :: st) t Q := by
  rw [vc_q (o := (0, 0, 0, 0, [])) (by decide +kernel)]; rfl
theorem v_31_1 (xs : Option (List Int32)) (n : Nat) (b : Bool) (d : Nat) (ml : List Value) (t : T) (Q : Option Value → T → Prop) (v : Int32) (r : List Value) : vc xs zH_31 (n + 1) b d 31 1 ml (.int v :: r) t Q = vset ml 1 (.int v) (fun l => vc xs zH_31 n true d 31 2 l r t Q) := by
  rw [vc_q (o := (3, 0, 1, 0, [])) (by decide +kernel)]; rfl
theorem v_31_2 (xs : Option (List Int32)) (n : Nat) (b : Bool) (d : Nat) (ml : List Value) (t : T) (Q : Option Value → T → Prop) (st : List Value) : vc xs zH_31 (n + 1) b d 31 2 ml st t Q = vc xs zH_31 n true d 31 3 ml (.int 0 :: st) t Q := by
  rw [vc_q (o := (0, 0, 0, 0, [])) (by decide +kernel)]; rfl
theorem v_31_3 (xs : Option (List Int32)) (n : Nat) (b : Bool) (d : Nat) (ml : List Value) (t : T) (Q : Option Value → T → Prop) (v : Int32) (r : List Value) : vc xs zH_31 (n + 1) b d 31 3 ml (.int v :: r) t Q = vset ml 2 (.int v) (fun l => vc xs zH_31 n true d 31 4 l r t Q) := by
  rw [vc_q (o := (3, 0, 2, 0, [])) (by decide +kernel)]; rfl
theorem v_31_4 (xs : Option (List Int32)) (n : Nat) (d : Nat) (ml : List Value) (t : T) (Q : Option Value → T → Prop) (st : List Value) : vc xs zH_31 (n + 1) false d 31 4 ml st t Q = vgi ml 2 (fun v => vc xs zH_31 n true d 31 5 ml (.int v :: st) t Q) := by
  rw [vc_q (o := (1, 0, 2, 0, [])) (by decide +kernel)]; rfl
theorem h_31_4 (xs : Option (List Int32)) (n d : Nat) (ml st : List Value) (t : T) (Q : Option Value → T → Prop) : vc xs zH_31 (n + 1) true d 31 4 ml st t Q = twp xs d 31 4 ml st t Q := id rfl
theorem v_31_5 (xs : Option (List Int32)) (n : Nat) (b : Bool) (d : Nat) (ml : List Value) (t : T) (Q : Option Value → T → Prop) (st : List Value) : vc xs zH_31 (n + 1) b d 31 5 ml st t Q = vc xs zH_31 n true d 31 6 ml (.int 4 :: st) t Q := by
  rw [vc_q (o := (0, 4, 0, 0, [])) (by decide +kernel)]; rfl
theorem v_31_6 (xs : Option (List Int32)) (n : Nat) (b : Bool) (d : Nat) (ml : List Value) (t : T) (Q : Option Value → T → Prop) (u v : Int32) (r : List Value) : vc xs zH_31 (n + 1) b d 31 6 ml (.int v :: .int u :: r) t Q = (if u < v then vc xs zH_31 n true d 31 9 ml r t Q else vc xs zH_31 n true d 31 36 ml r t Q) := by
  rw [vc_q (o := (20, 0, 36, 3, [])) (by decide +kernel)]; rfl
theorem v_31_9 (xs : Option (List Int32)) (n : Nat) (b : Bool) (d : Nat) (ml : List Value) (t : T) (Q : Option Value → T → Prop) (st : List Value) : vc xs zH_31 (n + 1) b d 31 9 ml st t Q = vga ml 0 (fun v => vc xs zH_31 n true d 31 10 ml (.ref v :: st) t Q) := by
  rw [vc_q (o := (2, 0, 0, 0, [])) (by decide +kernel)]; rfl
theorem v_31_10 (xs : Option (List Int32)) (n : Nat) (b : Bool) (d : Nat) (ml : List Value) (t : T) (Q : Option Value → T → Prop) (u : Nat) (r : List Value) : vc xs zH_31 (n + 1) b d 31 10 ml (.ref u :: r) t Q = (vtag u = 0 ∧ vc xs zH_31 n true d 31 13 ml (.ref (tref t u 9) :: r) t Q) := by
  rw [vc_q (o := (25, 0, 0, 9, [])) (by decide +kernel)]; rfl
theorem v_31_13 (xs : Option (List Int32)) (n : Nat) (b : Bool) (d : Nat) (ml : List Value) (t : T) (Q : Option Value → T → Prop) (st : List Value) : vc xs zH_31 (n + 1) b d 31 13 ml st t Q = vgi ml 2 (fun v => vc xs zH_31 n true d 31 14 ml (.int v :: st) t Q) := by
  rw [vc_q (o := (1, 0, 2, 0, [])) (by decide +kernel)]; rfl
theorem v_31_14 (xs : Option (List Int32)) (n : Nat) (b : Bool) (d : Nat) (ml : List Value) (t : T) (Q : Option Value → T → Prop) (v : Int32) (u : Nat) (r : List Value) : vc xs zH_31 (n + 1) b d 31 14 ml (.int v :: .ref u :: r) t Q = (103 ≤ vtag u ∧ vtag u < 108 ∧ vinb v (vlen u) ∧ vc xs zH_31 n true d 31 15 ml (.ref (tref t u v.toNatClampNeg) :: r) t Q) := by
  rw [vc_q (o := (31, 0, 0, 0, [])) (by decide +kernel)]; rfl
theorem v_31_15 (xs : Option (List Int32)) (n : Nat) (b : Bool) (d : Nat) (ml : List Value) (t : T) (Q : Option Value → T → Prop) (st : List Value) : vc xs zH_31 (n + 1) b d 31 15 ml st t Q = (st.all zc1 = true ∧ vtk 1 st [] (fun as rest => rest.length ≤ 8 ∧ vrc as 8 (twc d 109 as t (fun r t' => vc xs zH_31 n true d 31 18 ml (r.toList ++ rest) t' Q)))) := by
  rw [vc_q (o := (36, 0, 109, 0, [(0, 8)])) (by decide +kernel)]; rfl
theorem v_31_18 (xs : Option (List Int32)) (n : Nat) (b : Bool) (d : Nat) (ml : List Value) (t : T) (Q : Option Value → T → Prop) (st : List Value) : vc xs zH_31 (n + 1) b d 31 18 ml st t Q = vgi ml 1 (fun v => vc xs zH_31 n true d 31 19 ml (.int v :: st) t Q) := by
  rw [vc_q (o := (1, 0, 1, 0, [])) (by decide +kernel)]; rfl
theorem v_31_19 (xs : Option (List Int32)) (n : Nat) (b : Bool) (d : Nat) (ml : List Value) (t : T) (Q : Option Value → T → Prop) (st : List Value) : vc xs zH_31 (n + 1) b d 31 19 ml st t Q = vga ml 0 (fun v => vc xs zH_31 n true d 31 20 ml (.ref v :: st) t Q) := by
  rw [vc_q (o := (2, 0, 0, 0, [])) (by decide +kernel)]; rfl
theorem v_31_20 (xs : Option (List Int32)) (n : Nat) (b : Bool) (d : Nat) (ml : List Value) (t : T) (Q : Option Value → T → Prop) (u : Nat) (r : List Value) : vc xs zH_31 (n + 1) b d 31 20 ml (.ref u :: r) t Q = (vtag u = 0 ∧ vc xs zH_31 n true d 31 23 ml (.ref (tref t u 9) :: r) t Q) := by
  rw [vc_q (o := (25, 0, 0, 9, [])) (by decide +kernel)]; rfl
theorem v_31_23 (xs : Option (List Int32)) (n : Nat) (b : Bool) (d : Nat) (ml : List Value) (t : T) (Q : Option Value → T → Prop) (st : List Value) : vc xs zH_31 (n + 1) b d 31 23 ml st t Q = vgi ml 2 (fun v => vc xs zH_31 n true d 31 24 ml (.int v :: st) t Q) := by
  rw [vc_q (o := (1, 0, 2, 0, [])) (by decide +kernel)]; rfl
theorem v_31_24 (xs : Option (List Int32)) (n : Nat) (b : Bool) (d : Nat) (ml : List Value) (t : T) (Q : Option Value → T → Prop) (v : Int32) (u : Nat) (r : List Value) : vc xs zH_31 (n + 1) b d 31 24 ml (.int v :: .ref u :: r) t Q = (103 ≤ vtag u ∧ vtag u < 108 ∧ vinb v (vlen u) ∧ vc xs zH_31 n true d 31 25 ml (.ref (tref t u v.toNatClampNeg) :: r) t Q) := by
  rw [vc_q (o := (31, 0, 0, 0, [])) (by decide +kernel)]; rfl
theorem v_31_25 (xs : Option (List Int32)) (n : Nat) (b : Bool) (d : Nat) (ml : List Value) (t : T) (Q : Option Value → T → Prop) (u : Nat) (r : List Value) : vc xs zH_31 (n + 1) b d 31 25 ml (.ref u :: r) t Q = (vtag u = 8 ∧ vc xs zH_31 n true d 31 28 ml (.int (t.1 u 1) :: r) t Q) := by
  rw [vc_q (o := (24, 0, 8, 1, [])) (by decide +kernel)]; rfl
theorem v_31_28 (xs : Option (List Int32)) (n : Nat) (b : Bool) (d : Nat) (ml : List Value) (t : T) (Q : Option Value → T → Prop) (u v : Int32) (r : List Value) : vc xs zH_31 (n + 1) b d 31 28 ml (.int v :: .int u :: r) t Q = vc xs zH_31 n true d 31 29 ml (.int (u + v) :: r) t Q := by
  rw [vc_q (o := (6, 0, 0, 0, [])) (by decide +kernel)]; rfl
theorem v_31_29 (xs : Option (List Int32)) (n : Nat) (b : Bool) (d : Nat) (ml : List Value) (t : T) (Q : Option Value → T → Prop) (v : Int32) (r : List Value) : vc xs zH_31 (n + 1) b d 31 29 ml (.int v :: r) t Q = vset ml 1 (.int v) (fun l => vc xs zH_31 n true d 31 30 l r t Q) := by
  rw [vc_q (o := (3, 0, 1, 0, [])) (by decide +kernel)]; rfl
theorem v_31_30 (xs : Option (List Int32)) (n : Nat) (b : Bool) (d : Nat) (ml : List Value) (t : T) (Q : Option Value → T → Prop) (st : List Value) : vc xs zH_31 (n + 1) b d 31 30 ml st t Q = vgi ml 2 (fun v => vset ml 2 (.int (v + 1)) (fun l => vc xs zH_31 n true d 31 33 l st t Q)) := by
  rw [vc_q (o := (5, 1, 2, 0, [])) (by decide +kernel)]; rfl
theorem v_31_33 (xs : Option (List Int32)) (n : Nat) (b : Bool) (d : Nat) (ml : List Value) (t : T) (Q : Option Value → T → Prop) (st : List Value) : vc xs zH_31 (n + 1) b d 31 33 ml st t Q = vc xs zH_31 n true d 31 4 ml st t Q := by
  rw [vc_q (o := (22, 0, 4, 0, [])) (by decide +kernel)]; rfl
theorem v_31_36 (xs : Option (List Int32)) (n : Nat) (b : Bool) (d : Nat) (ml : List Value) (t : T) (Q : Option Value → T → Prop) (st : List Value) : vc xs zH_31 (n + 1) b d 31 36 ml st t Q = vgi ml 1 (fun v => vc xs zH_31 n true d 31 37 ml (.int v :: st) t Q) := by
  rw [vc_q (o := (1, 0, 1, 0, [])) (by decide +kernel)]; rfl
theorem v_31_37 (xs : Option (List Int32)) (n : Nat) (b : Bool) (d : Nat) (ml : List Value) (t : T) (Q : Option Value → T → Prop) (v : Int32) : vc xs zH_31 (n + 1) b d 31 37 ml [.int v] t Q = Q (some (.int v)) t := by
  rw [vc_q (o := (40, 0, 0, 0, [])) (by decide +kernel)]; rfl
def zH_33 : List Nat := []
theorem v_33_0 (xs : Option (List Int32)) (n : Nat) (b : Bool) (d : Nat) (ml : List Value) (t : T) (Q : Option Value → T → Prop) (st : List Value) : vc xs zH_33 (n + 1) b d 33 0 ml st t Q = vgi ml 0 (fun v => vc xs zH_33 n true d 33 1 ml (.int v :: st) t Q) := by
  rw [vc_q (o := (1, 0, 0, 0, [])) (by decide +kernel)]; rfl
theorem v_33_1 (xs : Option (List Int32)) (n : Nat) (b : Bool) (d : Nat) (ml : List Value) (t : T) (Q : Option Value → T → Prop) (st : List Value) : vc xs zH_33 (n + 1) b d 33 1 ml st t Q = vc xs zH_33 n true d 33 2 ml (.int 2 :: st) t Q := by
  rw [vc_q (o := (0, 2, 0, 0, [])) (by decide +kernel)]; rfl
theorem v_33_2 (xs : Option (List Int32)) (n : Nat) (b : Bool) (d : Nat) (ml : List Value) (t : T) (Q : Option Value → T → Prop) (u v : Int32) (r : List Value) : vc xs zH_33 (n + 1) b d 33 2 ml (.int v :: .int u :: r) t Q = (if u = v then vc xs zH_33 n true d 33 5 ml r t Q else vc xs zH_33 n true d 33 9 ml r t Q) := by
  rw [vc_q (o := (20, 0, 9, 1, [])) (by decide +kernel)]; rfl
theorem v_33_5 (xs : Option (List Int32)) (n : Nat) (b : Bool) (d : Nat) (ml : List Value) (t : T) (Q : Option Value → T → Prop) (st : List Value) : vc xs zH_33 (n + 1) b d 33 5 ml st t Q = vc xs zH_33 n true d 33 6 ml (.int 1 :: st) t Q := by
  rw [vc_q (o := (0, 1, 0, 0, [])) (by decide +kernel)]; rfl
theorem v_33_6 (xs : Option (List Int32)) (n : Nat) (b : Bool) (d : Nat) (ml : List Value) (t : T) (Q : Option Value → T → Prop) (st : List Value) : vc xs zH_33 (n + 1) b d 33 6 ml st t Q = vc xs zH_33 n true d 33 12 ml st t Q := by
  rw [vc_q (o := (22, 0, 12, 0, [])) (by decide +kernel)]; rfl
theorem v_33_9 (xs : Option (List Int32)) (n : Nat) (b : Bool) (d : Nat) (ml : List Value) (t : T) (Q : Option Value → T → Prop) (st : List Value) : vc xs zH_33 (n + 1) b d 33 9 ml st t Q = vc xs zH_33 n true d 33 10 ml (.int 2 :: st) t Q := by
  rw [vc_q (o := (0, 2, 0, 0, [])) (by decide +kernel)]; rfl
theorem v_33_10 (xs : Option (List Int32)) (n : Nat) (b : Bool) (d : Nat) (ml : List Value) (t : T) (Q : Option Value → T → Prop) (st : List Value) : vc xs zH_33 (n + 1) b d 33 10 ml st t Q = vgi ml 0 (fun v => vc xs zH_33 n true d 33 11 ml (.int v :: st) t Q) := by
  rw [vc_q (o := (1, 0, 0, 0, [])) (by decide +kernel)]; rfl
theorem v_33_11 (xs : Option (List Int32)) (n : Nat) (b : Bool) (d : Nat) (ml : List Value) (t : T) (Q : Option Value → T → Prop) (u v : Int32) (r : List Value) : vc xs zH_33 (n + 1) b d 33 11 ml (.int v :: .int u :: r) t Q = vc xs zH_33 n true d 33 12 ml (.int (u * v) :: r) t Q := by
  rw [vc_q (o := (8, 0, 0, 0, [])) (by decide +kernel)]; rfl
theorem v_33_12 (xs : Option (List Int32)) (n : Nat) (b : Bool) (d : Nat) (ml : List Value) (t : T) (Q : Option Value → T → Prop) (v : Int32) : vc xs zH_33 (n + 1) b d 33 12 ml [.int v] t Q = Q (some (.int v)) t := by
  rw [vc_q (o := (40, 0, 0, 0, [])) (by decide +kernel)]; rfl
def zH_34 : List Nat := []
theorem v_34_0 (xs : Option (List Int32)) (n : Nat) (b : Bool) (d : Nat) (ml : List Value) (t : T) (Q : Option Value → T → Prop) (st : List Value) : vc xs zH_34 (n + 1) b d 34 0 ml st t Q = vgi ml 0 (fun v => vc xs zH_34 n true d 34 1 ml (.int v :: st) t Q) := by
  rw [vc_q (o := (1, 0, 0, 0, [])) (by decide +kernel)]; rfl
theorem v_34_1 (xs : Option (List Int32)) (n : Nat) (b : Bool) (d : Nat) (ml : List Value) (t : T) (Q : Option Value → T → Prop) (st : List Value) : vc xs zH_34 (n + 1) b d 34 1 ml st t Q = (st.all zc1 = true ∧ vtk 1 st [] (fun as rest => rest.length ≤ 8 ∧ twc d 33 as t (fun r t' => vc xs zH_34 n true d 34 4 ml (r.toList ++ rest) t' Q))) := by
  rw [vc_q (o := (37, 0, 33, 1, [])) (by decide +kernel)]; rfl
theorem v_34_4 (xs : Option (List Int32)) (n : Nat) (b : Bool) (d : Nat) (ml : List Value) (t : T) (Q : Option Value → T → Prop) (st : List Value) : vc xs zH_34 (n + 1) b d 34 4 ml st t Q = vgi ml 1 (fun v => vc xs zH_34 n true d 34 5 ml (.int v :: st) t Q) := by
  rw [vc_q (o := (1, 0, 1, 0, [])) (by decide +kernel)]; rfl
theorem v_34_5 (xs : Option (List Int32)) (n : Nat) (b : Bool) (d : Nat) (ml : List Value) (t : T) (Q : Option Value → T → Prop) (st : List Value) : vc xs zH_34 (n + 1) b d 34 5 ml st t Q = (st.all zc1 = true ∧ vtk 1 st [] (fun as rest => rest.length ≤ 8 ∧ twc d 33 as t (fun r t' => vc xs zH_34 n true d 34 8 ml (r.toList ++ rest) t' Q))) := by
  rw [vc_q (o := (37, 0, 33, 1, [])) (by decide +kernel)]; rfl
theorem v_34_8 (xs : Option (List Int32)) (n : Nat) (b : Bool) (d : Nat) (ml : List Value) (t : T) (Q : Option Value → T → Prop) (u v : Int32) (r : List Value) : vc xs zH_34 (n + 1) b d 34 8 ml (.int v :: .int u :: r) t Q = (if u < v then vc xs zH_34 n true d 34 11 ml r t Q else vc xs zH_34 n true d 34 15 ml r t Q) := by
  rw [vc_q (o := (20, 0, 15, 3, [])) (by decide +kernel)]; rfl
theorem v_34_11 (xs : Option (List Int32)) (n : Nat) (b : Bool) (d : Nat) (ml : List Value) (t : T) (Q : Option Value → T → Prop) (st : List Value) : vc xs zH_34 (n + 1) b d 34 11 ml st t Q = vgi ml 0 (fun v => vc xs zH_34 n true d 34 12 ml (.int v :: st) t Q) := by
  rw [vc_q (o := (1, 0, 0, 0, [])) (by decide +kernel)]; rfl
theorem v_34_12 (xs : Option (List Int32)) (n : Nat) (b : Bool) (d : Nat) (ml : List Value) (t : T) (Q : Option Value → T → Prop) (st : List Value) : vc xs zH_34 (n + 1) b d 34 12 ml st t Q = vc xs zH_34 n true d 34 16 ml st t Q := by
  rw [vc_q (o := (22, 0, 16, 0, [])) (by decide +kernel)]; rfl
theorem v_34_15 (xs : Option (List Int32)) (n : Nat) (b : Bool) (d : Nat) (ml : List Value) (t : T) (Q : Option Value → T → Prop) (st : List Value) : vc xs zH_34 (n + 1) b d 34 15 ml st t Q = vgi ml 1 (fun v => vc xs zH_34 n true d 34 16 ml (.int v :: st) t Q) := by
  rw [vc_q (o := (1, 0, 1, 0, [])) (by decide +kernel)]; rfl
theorem v_34_16 (xs : Option (List Int32)) (n : Nat) (b : Bool) (d : Nat) (ml : List Value) (t : T) (Q : Option Value → T → Prop) (v : Int32) : vc xs zH_34 (n + 1) b d 34 16 ml [.int v] t Q = Q (some (.int v)) t := by
  rw [vc_q (o := (40, 0, 0, 0, [])) (by decide +kernel)]; rfl
def zH_35 : List Nat := []
theorem v_35_0 (xs : Option (List Int32)) (n : Nat) (b : Bool) (d : Nat) (ml : List Value) (t : T) (Q : Option Value → T → Prop) (st : List Value) : vc xs zH_35 (n + 1) b d 35 0 ml st t Q = vgi ml 0 (fun v => vc xs zH_35 n true d 35 1 ml (.int v :: st) t Q) := by
  rw [vc_q (o := (1, 0, 0, 0, [])) (by decide +kernel)]; rfl
theorem v_35_1 (xs : Option (List Int32)) (n : Nat) (b : Bool) (d : Nat) (ml : List Value) (t : T) (Q : Option Value → T → Prop) (st : List Value) : vc xs zH_35 (n + 1) b d 35 1 ml st t Q = (st.all zc1 = true ∧ vtk 1 st [] (fun as rest => rest.length ≤ 8 ∧ twc d 33 as t (fun r t' => vc xs zH_35 n true d 35 4 ml (r.toList ++ rest) t' Q))) := by
  rw [vc_q (o := (37, 0, 33, 1, [])) (by decide +kernel)]; rfl
theorem v_35_4 (xs : Option (List Int32)) (n : Nat) (b : Bool) (d : Nat) (ml : List Value) (t : T) (Q : Option Value → T → Prop) (st : List Value) : vc xs zH_35 (n + 1) b d 35 4 ml st t Q = vgi ml 1 (fun v => vc xs zH_35 n true d 35 5 ml (.int v :: st) t Q) := by
  rw [vc_q (o := (1, 0, 1, 0, [])) (by decide +kernel)]; rfl
theorem v_35_5 (xs : Option (List Int32)) (n : Nat) (b : Bool) (d : Nat) (ml : List Value) (t : T) (Q : Option Value → T → Prop) (st : List Value) : vc xs zH_35 (n + 1) b d 35 5 ml st t Q = (st.all zc1 = true ∧ vtk 1 st [] (fun as rest => rest.length ≤ 8 ∧ twc d 33 as t (fun r t' => vc xs zH_35 n true d 35 8 ml (r.toList ++ rest) t' Q))) := by
  rw [vc_q (o := (37, 0, 33, 1, [])) (by decide +kernel)]; rfl
theorem v_35_8 (xs : Option (List Int32)) (n : Nat) (b : Bool) (d : Nat) (ml : List Value) (t : T) (Q : Option Value → T → Prop) (u v : Int32) (r : List Value) : vc xs zH_35 (n + 1) b d 35 8 ml (.int v :: .int u :: r) t Q = (if v < u then vc xs zH_35 n true d 35 11 ml r t Q else vc xs zH_35 n true d 35 15 ml r t Q) := by
  rw [vc_q (o := (20, 0, 15, 5, [])) (by decide +kernel)]; rfl
theorem v_35_11 (xs : Option (List Int32)) (n : Nat) (b : Bool) (d : Nat) (ml : List Value) (t : T) (Q : Option Value → T → Prop) (st : List Value) : vc xs zH_35 (n + 1) b d 35 11 ml st t Q = vgi ml 0 (fun v => vc xs zH_35 n true d 35 12 ml (.int v :: st) t Q) := by
  rw [vc_q (o := (1, 0, 0, 0, [])) (by decide +kernel)]; rfl
theorem v_35_12 (xs : Option (List Int32)) (n : Nat) (b : Bool) (d : Nat) (ml : List Value) (t : T) (Q : Option Value → T → Prop) (st : List Value) : vc xs zH_35 (n + 1) b d 35 12 ml st t Q = vc xs zH_35 n true d 35 16 ml st t Q := by
  rw [vc_q (o := (22, 0, 16, 0, [])) (by decide +kernel)]; rfl
theorem v_35_15 (xs : Option (List Int32)) (n : Nat) (b : Bool) (d : Nat) (ml : List Value) (t : T) (Q : Option Value → T → Prop) (st : List Value) : vc xs zH_35 (n + 1) b d 35 15 ml st t Q = vgi ml 1 (fun v => vc xs zH_35 n true d 35 16 ml (.int v :: st) t Q) := by
  rw [vc_q (o := (1, 0, 1, 0, [])) (by decide +kernel)]; rfl
theorem v_35_16 (xs : Option (List Int32)) (n : Nat) (b : Bool) (d : Nat) (ml : List Value) (t : T) (Q : Option Value → T → Prop) (v : Int32) : vc xs zH_35 (n + 1) b d 35 16 ml [.int v] t Q = Q (some (.int v)) t := by
  rw [vc_q (o := (40, 0, 0, 0, [])) (by decide +kernel)]; rfl
