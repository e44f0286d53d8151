def zH_36 : List Nat := []
theorem v_36_0 (xs : Option (List Int32)) (n : Nat) (b : Bool) (d : Nat) (ml : List Value) (t : T) (Q : Option Value → T → Prop) (st : List Value) : vc xs zH_36 (n + 1) b d 36 0 ml st t Q = vgi ml 0 (fun v => vc xs zH_36 n true d 36 1 ml (.int v :: st) t Q) := by
  rw [vc_q (o := (1, 0, 0, 0, [])) (by decide +kernel)]; rfl
theorem v_36_1 (xs : Option (List Int32)) (n : Nat) (b : Bool) (d : Nat) (ml : List Value) (t : T) (Q : Option Value → T → Prop) (st : List Value) : vc xs zH_36 (n + 1) b d 36 1 ml st t Q = vc xs zH_36 n true d 36 2 ml (.int 2 :: st) t Q := by
  rw [vc_q (o := (0, 2, 0, 0, [])) (by decide +kernel)]; rfl
theorem v_36_2 (xs : Option (List Int32)) (n : Nat) (b : Bool) (d : Nat) (ml : List Value) (t : T) (Q : Option Value → T → Prop) (u v : Int32) (r : List Value) : vc xs zH_36 (n + 1) b d 36 2 ml (.int v :: .int u :: r) t Q = (if u = v then vc xs zH_36 n true d 36 5 ml r t Q else vc xs zH_36 n true d 36 9 ml r t Q) := by
  rw [vc_q (o := (20, 0, 9, 1, [])) (by decide +kernel)]; rfl
theorem v_36_5 (xs : Option (List Int32)) (n : Nat) (b : Bool) (d : Nat) (ml : List Value) (t : T) (Q : Option Value → T → Prop) (st : List Value) : vc xs zH_36 (n + 1) b d 36 5 ml st t Q = vc xs zH_36 n true d 36 6 ml (.int 2 :: st) t Q := by
  rw [vc_q (o := (0, 2, 0, 0, [])) (by decide +kernel)]; rfl
theorem v_36_6 (xs : Option (List Int32)) (n : Nat) (b : Bool) (d : Nat) (ml : List Value) (t : T) (Q : Option Value → T → Prop) (st : List Value) : vc xs zH_36 (n + 1) b d 36 6 ml st t Q = vc xs zH_36 n true d 36 12 ml st t Q := by
  rw [vc_q (o := (22, 0, 12, 0, [])) (by decide +kernel)]; rfl
theorem v_36_9 (xs : Option (List Int32)) (n : Nat) (b : Bool) (d : Nat) (ml : List Value) (t : T) (Q : Option Value → T → Prop) (st : List Value) : vc xs zH_36 (n + 1) b d 36 9 ml st t Q = vc xs zH_36 n true d 36 10 ml (.int 1 :: st) t Q := by
  rw [vc_q (o := (0, 1, 0, 0, [])) (by decide +kernel)]; rfl
theorem v_36_10 (xs : Option (List Int32)) (n : Nat) (b : Bool) (d : Nat) (ml : List Value) (t : T) (Q : Option Value → T → Prop) (st : List Value) : vc xs zH_36 (n + 1) b d 36 10 ml st t Q = vgi ml 0 (fun v => vc xs zH_36 n true d 36 11 ml (.int v :: st) t Q) := by
  rw [vc_q (o := (1, 0, 0, 0, [])) (by decide +kernel)]; rfl
theorem v_36_11 (xs : Option (List Int32)) (n : Nat) (b : Bool) (d : Nat) (ml : List Value) (t : T) (Q : Option Value → T → Prop) (u v : Int32) (r : List Value) : vc xs zH_36 (n + 1) b d 36 11 ml (.int v :: .int u :: r) t Q = vc xs zH_36 n true d 36 12 ml (.int (u - v) :: r) t Q := by
  rw [vc_q (o := (7, 0, 0, 0, [])) (by decide +kernel)]; rfl
theorem v_36_12 (xs : Option (List Int32)) (n : Nat) (b : Bool) (d : Nat) (ml : List Value) (t : T) (Q : Option Value → T → Prop) (v : Int32) : vc xs zH_36 (n + 1) b d 36 12 ml [.int v] t Q = Q (some (.int v)) t := by
  rw [vc_q (o := (40, 0, 0, 0, [])) (by decide +kernel)]; rfl
def zH_37 : List Nat := []
theorem v_37_0 (xs : Option (List Int32)) (n : Nat) (b : Bool) (d : Nat) (ml : List Value) (t : T) (Q : Option Value → T → Prop) (st : List Value) : vc xs zH_37 (n + 1) b d 37 0 ml st t Q = vgi ml 0 (fun v => vc xs zH_37 n true d 37 1 ml (.int v :: st) t Q) := by
  rw [vc_q (o := (1, 0, 0, 0, [])) (by decide +kernel)]; rfl
theorem v_37_1 (xs : Option (List Int32)) (n : Nat) (b : Bool) (d : Nat) (ml : List Value) (t : T) (Q : Option Value → T → Prop) (st : List Value) : vc xs zH_37 (n + 1) b d 37 1 ml st t Q = vgi ml 1 (fun v => vc xs zH_37 n true d 37 2 ml (.int v :: st) t Q) := by
  rw [vc_q (o := (1, 0, 1, 0, [])) (by decide +kernel)]; rfl
theorem v_37_2 (xs : Option (List Int32)) (n : Nat) (b : Bool) (d : Nat) (ml : List Value) (t : T) (Q : Option Value → T → Prop) (u v : Int32) (r : List Value) : vc xs zH_37 (n + 1) b d 37 2 ml (.int v :: .int u :: r) t Q = (if u < v then vc xs zH_37 n true d 37 10 ml r t Q else vc xs zH_37 n true d 37 5 ml r t Q) := by
  rw [vc_q (o := (20, 0, 10, 2, [])) (by decide +kernel)]; rfl
theorem v_37_5 (xs : Option (List Int32)) (n : Nat) (b : Bool) (d : Nat) (ml : List Value) (t : T) (Q : Option Value → T → Prop) (st : List Value) : vc xs zH_37 (n + 1) b d 37 5 ml st t Q = vgi ml 0 (fun v => vc xs zH_37 n true d 37 6 ml (.int v :: st) t Q) := by
  rw [vc_q (o := (1, 0, 0, 0, [])) (by decide +kernel)]; rfl
theorem v_37_6 (xs : Option (List Int32)) (n : Nat) (b : Bool) (d : Nat) (ml : List Value) (t : T) (Q : Option Value → T → Prop) (st : List Value) : vc xs zH_37 (n + 1) b d 37 6 ml st t Q = vgi ml 2 (fun v => vc xs zH_37 n true d 37 7 ml (.int v :: st) t Q) := by
  rw [vc_q (o := (1, 0, 2, 0, [])) (by decide +kernel)]; rfl
theorem v_37_7 (xs : Option (List Int32)) (n : Nat) (b : Bool) (d : Nat) (ml : List Value) (t : T) (Q : Option Value → T → Prop) (u v : Int32) (r : List Value) : vc xs zH_37 (n + 1) b d 37 7 ml (.int v :: .int u :: r) t Q = (if v < u then vc xs zH_37 n true d 37 10 ml r t Q else vc xs zH_37 n true d 37 14 ml r t Q) := by
  rw [vc_q (o := (20, 0, 14, 5, [])) (by decide +kernel)]; rfl
theorem v_37_10 (xs : Option (List Int32)) (n : Nat) (b : Bool) (d : Nat) (ml : List Value) (t : T) (Q : Option Value → T → Prop) (st : List Value) : vc xs zH_37 (n + 1) b d 37 10 ml st t Q = vc xs zH_37 n true d 37 11 ml (.int 1 :: st) t Q := by
  rw [vc_q (o := (0, 1, 0, 0, [])) (by decide +kernel)]; rfl
theorem v_37_11 (xs : Option (List Int32)) (n : Nat) (b : Bool) (d : Nat) (ml : List Value) (t : T) (Q : Option Value → T → Prop) (st : List Value) : vc xs zH_37 (n + 1) b d 37 11 ml st t Q = vc xs zH_37 n true d 37 15 ml st t Q := by
  rw [vc_q (o := (22, 0, 15, 0, [])) (by decide +kernel)]; rfl
theorem v_37_14 (xs : Option (List Int32)) (n : Nat) (b : Bool) (d : Nat) (ml : List Value) (t : T) (Q : Option Value → T → Prop) (st : List Value) : vc xs zH_37 (n + 1) b d 37 14 ml st t Q = vc xs zH_37 n true d 37 15 ml (.int 0 :: st) t Q := by
  rw [vc_q (o := (0, 0, 0, 0, [])) (by decide +kernel)]; rfl
theorem v_37_15 (xs : Option (List Int32)) (n : Nat) (b : Bool) (d : Nat) (ml : List Value) (t : T) (Q : Option Value → T → Prop) (v : Int32) : vc xs zH_37 (n + 1) b d 37 15 ml [.int v] t Q = ((v = 0 ∨ v = 1) ∧ Q (some (.int v)) t) := by
  rw [vc_q (o := (41, 0, 0, 0, [])) (by decide +kernel)]; rfl
def zH_38 : List Nat := []
theorem v_38_0 (xs : Option (List Int32)) (n : Nat) (b : Bool) (d : Nat) (ml : List Value) (t : T) (Q : Option Value → T → Prop) (st : List Value) : vc xs zH_38 (n + 1) b d 38 0 ml st t Q = vga ml 0 (fun v => vc xs zH_38 n true d 38 1 ml (.ref v :: st) t Q) := by
  rw [vc_q (o := (2, 0, 0, 0, [])) (by decide +kernel)]; rfl
theorem v_38_1 (xs : Option (List Int32)) (n : Nat) (b : Bool) (d : Nat) (ml : List Value) (t : T) (Q : Option Value → T → Prop) (u : Nat) (r : List Value) : vc xs zH_38 (n + 1) b d 38 1 ml (.ref u :: r) t Q = (vtag u = 12 ∧ vc xs zH_38 n true d 38 4 ml (.ref (tref t u 0) :: r) t Q) := by
  rw [vc_q (o := (25, 0, 12, 0, [])) (by decide +kernel)]; rfl
theorem v_38_4 (xs : Option (List Int32)) (n : Nat) (b : Bool) (d : Nat) (ml : List Value) (t : T) (Q : Option Value → T → Prop) (st : List Value) : vc xs zH_38 (n + 1) b d 38 4 ml st t Q = vc xs zH_38 n true d 38 6 ml (.int 105 :: st) t Q := by
  rw [vc_q (o := (0, 105, 1, 0, [])) (by decide +kernel)]; rfl
theorem v_38_6 (xs : Option (List Int32)) (n : Nat) (b : Bool) (d : Nat) (ml : List Value) (t : T) (Q : Option Value → T → Prop) (st : List Value) : vc xs zH_38 (n + 1) b d 38 6 ml st t Q = vgi ml 1 (fun v => vc xs zH_38 n true d 38 7 ml (.int v :: st) t Q) := by
  rw [vc_q (o := (1, 0, 1, 0, [])) (by decide +kernel)]; rfl
theorem v_38_7 (xs : Option (List Int32)) (n : Nat) (b : Bool) (d : Nat) (ml : List Value) (t : T) (Q : Option Value → T → Prop) (u v : Int32) (r : List Value) : vc xs zH_38 (n + 1) b d 38 7 ml (.int v :: .int u :: r) t Q = vc xs zH_38 n true d 38 8 ml (.int (u * v) :: r) t Q := by
  rw [vc_q (o := (8, 0, 0, 0, [])) (by decide +kernel)]; rfl
theorem v_38_8 (xs : Option (List Int32)) (n : Nat) (b : Bool) (d : Nat) (ml : List Value) (t : T) (Q : Option Value → T → Prop) (st : List Value) : vc xs zH_38 (n + 1) b d 38 8 ml st t Q = vgi ml 2 (fun v => vc xs zH_38 n true d 38 9 ml (.int v :: st) t Q) := by
  rw [vc_q (o := (1, 0, 2, 0, [])) (by decide +kernel)]; rfl
theorem v_38_9 (xs : Option (List Int32)) (n : Nat) (b : Bool) (d : Nat) (ml : List Value) (t : T) (Q : Option Value → T → Prop) (u v : Int32) (r : List Value) : vc xs zH_38 (n + 1) b d 38 9 ml (.int v :: .int u :: r) t Q = vc xs zH_38 n true d 38 10 ml (.int (u + v) :: r) t Q := by
  rw [vc_q (o := (6, 0, 0, 0, [])) (by decide +kernel)]; rfl
theorem v_38_10 (xs : Option (List Int32)) (n : Nat) (b : Bool) (d : Nat) (ml : List Value) (t : T) (Q : Option Value → T → Prop) (v : Int32) (u : Nat) (r : List Value) : vc xs zH_38 (n + 1) b d 38 10 ml (.int v :: .ref u :: r) t Q = ((vtag u = 101 ∨ vtag u = 102) ∧ vinb v (vlen u) ∧ vc xs zH_38 n true d 38 11 ml (.int (t.1 u v.toNatClampNeg) :: r) t Q) := by
  rw [vc_q (o := (30, 0, 0, 0, [])) (by decide +kernel)]; rfl
theorem v_38_11 (xs : Option (List Int32)) (n : Nat) (b : Bool) (d : Nat) (ml : List Value) (t : T) (Q : Option Value → T → Prop) (v : Int32) : vc xs zH_38 (n + 1) b d 38 11 ml [.int v] t Q = Q (some (.int v)) t := by
  rw [vc_q (o := (40, 0, 0, 0, [])) (by decide +kernel)]; rfl
def zH_39 : List Nat := []
theorem v_39_0 (xs : Option (List Int32)) (n : Nat) (b : Bool) (d : Nat) (ml : List Value) (t : T) (Q : Option Value → T → Prop) (st : List Value) : vc xs zH_39 (n + 1) b d 39 0 ml st t Q = vga ml 0 (fun v => vc xs zH_39 n true d 39 1 ml (.ref v :: st) t Q) := by
  rw [vc_q (o := (2, 0, 0, 0, [])) (by decide +kernel)]; rfl
theorem v_39_1 (xs : Option (List Int32)) (n : Nat) (b : Bool) (d : Nat) (ml : List Value) (t : T) (Q : Option Value → T → Prop) (u : Nat) (r : List Value) : vc xs zH_39 (n + 1) b d 39 1 ml (.ref u :: r) t Q = (vtag u = 12 ∧ vc xs zH_39 n true d 39 4 ml (.ref (tref t u 0) :: r) t Q) := by
  rw [vc_q (o := (25, 0, 12, 0, [])) (by decide +kernel)]; rfl
theorem v_39_4 (xs : Option (List Int32)) (n : Nat) (b : Bool) (d : Nat) (ml : List Value) (t : T) (Q : Option Value → T → Prop) (st : List Value) : vc xs zH_39 (n + 1) b d 39 4 ml st t Q = vc xs zH_39 n true d 39 6 ml (.int 105 :: st) t Q := by
  rw [vc_q (o := (0, 105, 1, 0, [])) (by decide +kernel)]; rfl
theorem v_39_6 (xs : Option (List Int32)) (n : Nat) (b : Bool) (d : Nat) (ml : List Value) (t : T) (Q : Option Value → T → Prop) (st : List Value) : vc xs zH_39 (n + 1) b d 39 6 ml st t Q = vgi ml 1 (fun v => vc xs zH_39 n true d 39 7 ml (.int v :: st) t Q) := by
  rw [vc_q (o := (1, 0, 1, 0, [])) (by decide +kernel)]; rfl
theorem v_39_7 (xs : Option (List Int32)) (n : Nat) (b : Bool) (d : Nat) (ml : List Value) (t : T) (Q : Option Value → T → Prop) (u v : Int32) (r : List Value) : vc xs zH_39 (n + 1) b d 39 7 ml (.int v :: .int u :: r) t Q = vc xs zH_39 n true d 39 8 ml (.int (u * v) :: r) t Q := by
  rw [vc_q (o := (8, 0, 0, 0, [])) (by decide +kernel)]; rfl
theorem v_39_8 (xs : Option (List Int32)) (n : Nat) (b : Bool) (d : Nat) (ml : List Value) (t : T) (Q : Option Value → T → Prop) (st : List Value) : vc xs zH_39 (n + 1) b d 39 8 ml st t Q = vgi ml 2 (fun v => vc xs zH_39 n true d 39 9 ml (.int v :: st) t Q) := by
  rw [vc_q (o := (1, 0, 2, 0, [])) (by decide +kernel)]; rfl
theorem v_39_9 (xs : Option (List Int32)) (n : Nat) (b : Bool) (d : Nat) (ml : List Value) (t : T) (Q : Option Value → T → Prop) (u v : Int32) (r : List Value) : vc xs zH_39 (n + 1) b d 39 9 ml (.int v :: .int u :: r) t Q = vc xs zH_39 n true d 39 10 ml (.int (u + v) :: r) t Q := by
  rw [vc_q (o := (6, 0, 0, 0, [])) (by decide +kernel)]; rfl
theorem v_39_10 (xs : Option (List Int32)) (n : Nat) (b : Bool) (d : Nat) (ml : List Value) (t : T) (Q : Option Value → T → Prop) (st : List Value) : vc xs zH_39 (n + 1) b d 39 10 ml st t Q = vgi ml 3 (fun v => vc xs zH_39 n true d 39 11 ml (.int v :: st) t Q) := by
  rw [vc_q (o := (1, 0, 3, 0, [])) (by decide +kernel)]; rfl
theorem v_39_11 (xs : Option (List Int32)) (n : Nat) (b : Bool) (d : Nat) (ml : List Value) (t : T) (Q : Option Value → T → Prop) (v : Int32) (r : List Value) : vc xs zH_39 (n + 1) b d 39 11 ml (.int v :: r) t Q = vc xs zH_39 n true d 39 12 ml (.int v.toInt8.toInt32 :: r) t Q := by
  rw [vc_q (o := (16, 0, 0, 0, [])) (by decide +kernel)]; rfl
theorem v_39_12 (xs : Option (List Int32)) (n : Nat) (b : Bool) (d : Nat) (ml : List Value) (t : T) (Q : Option Value → T → Prop) (w v : Int32) (u : Nat) (r : List Value) : vc xs zH_39 (n + 1) b d 39 12 ml (.int w :: .int v :: .ref u :: r) t Q = (vinb v (vlen u) ∧ if vtag u = 101 then vc xs zH_39 n true d 39 13 ml r (tsi t u v.toNatClampNeg w.toInt8.toInt32) Q else (vtag u = 102 ∧ (w = 0 ∨ w = 1) ∧ vc xs zH_39 n true d 39 13 ml r (tsi t u v.toNatClampNeg w) Q)) := by
  rw [vc_q (o := (33, 0, 0, 0, [])) (by decide +kernel)]; rfl
theorem v_39_13 (xs : Option (List Int32)) (n : Nat) (b : Bool) (d : Nat) (ml : List Value) (t : T) (Q : Option Value → T → Prop)  : vc xs zH_39 (n + 1) b d 39 13 ml [] t Q = Q none t := by
  rw [vc_q (o := (43, 0, 0, 0, [])) (by decide +kernel)]; rfl
def zH_40 : List Nat := []
theorem v_40_0 (xs : Option (List Int32)) (n : Nat) (b : Bool) (d : Nat) (ml : List Value) (t : T) (Q : Option Value → T → Prop) (st : List Value) : vc xs zH_40 (n + 1) b d 40 0 ml st t Q = vga ml 0 (fun v => vc xs zH_40 n true d 40 1 ml (.ref v :: st) t Q) := by
  rw [vc_q (o := (2, 0, 0, 0, [])) (by decide +kernel)]; rfl
theorem v_40_1 (xs : Option (List Int32)) (n : Nat) (b : Bool) (d : Nat) (ml : List Value) (t : T) (Q : Option Value → T → Prop) (st : List Value) : vc xs zH_40 (n + 1) b d 40 1 ml st t Q = vgi ml 1 (fun v => vc xs zH_40 n true d 40 2 ml (.int v :: st) t Q) := by
  rw [vc_q (o := (1, 0, 1, 0, [])) (by decide +kernel)]; rfl
theorem v_40_2 (xs : Option (List Int32)) (n : Nat) (b : Bool) (d : Nat) (ml : List Value) (t : T) (Q : Option Value → T → Prop) (st : List Value) : vc xs zH_40 (n + 1) b d 40 2 ml st t Q = vc xs zH_40 n true d 40 3 ml (.int 0 :: st) t Q := by
  rw [vc_q (o := (0, 0, 0, 0, [])) (by decide +kernel)]; rfl
theorem v_40_3 (xs : Option (List Int32)) (n : Nat) (b : Bool) (d : Nat) (ml : List Value) (t : T) (Q : Option Value → T → Prop) (st : List Value) : vc xs zH_40 (n + 1) b d 40 3 ml st t Q = (st.all zc1 = true ∧ vtk 3 st [] (fun as rest => rest.length ≤ 8 ∧ vrc as 12 (twc d 38 as t (fun r t' => vc xs zH_40 n true d 40 6 ml (r.toList ++ rest) t' Q)))) := by
  rw [vc_q (o := (36, 0, 38, 2, [(0, 12)])) (by decide +kernel)]; rfl
theorem v_40_6 (xs : Option (List Int32)) (n : Nat) (b : Bool) (d : Nat) (ml : List Value) (t : T) (Q : Option Value → T → Prop) (v : Int32) : vc xs zH_40 (n + 1) b d 40 6 ml [.int v] t Q = Q (some (.int v)) t := by
  rw [vc_q (o := (40, 0, 0, 0, [])) (by decide +kernel)]; rfl
def zH_41 : List Nat := []
theorem v_41_0 (xs : Option (List Int32)) (n : Nat) (b : Bool) (d : Nat) (ml : List Value) (t : T) (Q : Option Value → T → Prop) (st : List Value) : vc xs zH_41 (n + 1) b d 41 0 ml st t Q = vgi ml 0 (fun v => vc xs zH_41 n true d 41 1 ml (.int v :: st) t Q) := by
  rw [vc_q (o := (1, 0, 0, 0, [])) (by decide +kernel)]; rfl
theorem v_41_1 (xs : Option (List Int32)) (n : Nat) (b : Bool) (d : Nat) (ml : List Value) (t : T) (Q : Option Value → T → Prop) (st : List Value) : vc xs zH_41 (n + 1) b d 41 1 ml st t Q = vc xs zH_41 n true d 41 2 ml (.int 2 :: st) t Q := by
  rw [vc_q (o := (0, 2, 0, 0, [])) (by decide +kernel)]; rfl
theorem v_41_2 (xs : Option (List Int32)) (n : Nat) (b : Bool) (d : Nat) (ml : List Value) (t : T) (Q : Option Value → T → Prop) (u v : Int32) (r : List Value) : vc xs zH_41 (n + 1) b d 41 2 ml (.int v :: .int u :: r) t Q = (if u < v then vc xs zH_41 n true d 41 5 ml r t Q else vc xs zH_41 n true d 41 11 ml r t Q) := by
  rw [vc_q (o := (20, 0, 11, 3, [])) (by decide +kernel)]; rfl
theorem v_41_5 (xs : Option (List Int32)) (n : Nat) (b : Bool) (d : Nat) (ml : List Value) (t : T) (Q : Option Value → T → Prop) (st : List Value) : vc xs zH_41 (n + 1) b d 41 5 ml st t Q = vc xs zH_41 n true d 41 6 ml (.int 1 :: st) t Q := by
  rw [vc_q (o := (0, 1, 0, 0, [])) (by decide +kernel)]; rfl
theorem v_41_6 (xs : Option (List Int32)) (n : Nat) (b : Bool) (d : Nat) (ml : List Value) (t : T) (Q : Option Value → T → Prop) (st : List Value) : vc xs zH_41 (n + 1) b d 41 6 ml st t Q = vgi ml 0 (fun v => vc xs zH_41 n true d 41 7 ml (.int v :: st) t Q) := by
  rw [vc_q (o := (1, 0, 0, 0, [])) (by decide +kernel)]; rfl
theorem v_41_7 (xs : Option (List Int32)) (n : Nat) (b : Bool) (d : Nat) (ml : List Value) (t : T) (Q : Option Value → T → Prop) (u v : Int32) (r : List Value) : vc xs zH_41 (n + 1) b d 41 7 ml (.int v :: .int u :: r) t Q = vc xs zH_41 n true d 41 8 ml (.int (u + v) :: r) t Q := by
  rw [vc_q (o := (6, 0, 0, 0, [])) (by decide +kernel)]; rfl
theorem v_41_8 (xs : Option (List Int32)) (n : Nat) (b : Bool) (d : Nat) (ml : List Value) (t : T) (Q : Option Value → T → Prop) (st : List Value) : vc xs zH_41 (n + 1) b d 41 8 ml st t Q = vc xs zH_41 n true d 41 40 ml st t Q := by
  rw [vc_q (o := (22, 0, 40, 0, [])) (by decide +kernel)]; rfl
theorem v_41_11 (xs : Option (List Int32)) (n : Nat) (b : Bool) (d : Nat) (ml : List Value) (t : T) (Q : Option Value → T → Prop) (st : List Value) : vc xs zH_41 (n + 1) b d 41 11 ml st t Q = vgi ml 0 (fun v => vc xs zH_41 n true d 41 12 ml (.int v :: st) t Q) := by
  rw [vc_q (o := (1, 0, 0, 0, [])) (by decide +kernel)]; rfl
theorem v_41_12 (xs : Option (List Int32)) (n : Nat) (b : Bool) (d : Nat) (ml : List Value) (t : T) (Q : Option Value → T → Prop) (st : List Value) : vc xs zH_41 (n + 1) b d 41 12 ml st t Q = vc xs zH_41 n true d 41 14 ml (.int 6 :: st) t Q := by
  rw [vc_q (o := (0, 6, 1, 0, [])) (by decide +kernel)]; rfl
theorem v_41_14 (xs : Option (List Int32)) (n : Nat) (b : Bool) (d : Nat) (ml : List Value) (t : T) (Q : Option Value → T → Prop) (u v : Int32) (r : List Value) : vc xs zH_41 (n + 1) b d 41 14 ml (.int v :: .int u :: r) t Q = (if u < v then vc xs zH_41 n true d 41 17 ml r t Q else vc xs zH_41 n true d 41 27 ml r t Q) := by
  rw [vc_q (o := (20, 0, 27, 3, [])) (by decide +kernel)]; rfl
theorem v_41_17 (xs : Option (List Int32)) (n : Nat) (b : Bool) (d : Nat) (ml : List Value) (t : T) (Q : Option Value → T → Prop) (st : List Value) : vc xs zH_41 (n + 1) b d 41 17 ml st t Q = vc xs zH_41 n true d 41 18 ml (.int 2 :: st) t Q := by
  rw [vc_q (o := (0, 2, 0, 0, [])) (by decide +kernel)]; rfl
theorem v_41_18 (xs : Option (List Int32)) (n : Nat) (b : Bool) (d : Nat) (ml : List Value) (t : T) (Q : Option Value → T → Prop) (st : List Value) : vc xs zH_41 (n + 1) b d 41 18 ml st t Q = vc xs zH_41 n true d 41 19 ml (.int 5 :: st) t Q := by
  rw [vc_q (o := (0, 5, 0, 0, [])) (by decide +kernel)]; rfl
theorem v_41_19 (xs : Option (List Int32)) (n : Nat) (b : Bool) (d : Nat) (ml : List Value) (t : T) (Q : Option Value → T → Prop) (st : List Value) : vc xs zH_41 (n + 1) b d 41 19 ml st t Q = vgi ml 1 (fun v => vc xs zH_41 n true d 41 20 ml (.int v :: st) t Q) := by
  rw [vc_q (o := (1, 0, 1, 0, [])) (by decide +kernel)]; rfl
theorem v_41_20 (xs : Option (List Int32)) (n : Nat) (b : Bool) (d : Nat) (ml : List Value) (t : T) (Q : Option Value → T → Prop) (u v : Int32) (r : List Value) : vc xs zH_41 (n + 1) b d 41 20 ml (.int v :: .int u :: r) t Q = vc xs zH_41 n true d 41 21 ml (.int (u * v) :: r) t Q := by
  rw [vc_q (o := (8, 0, 0, 0, [])) (by decide +kernel)]; rfl
theorem v_41_21 (xs : Option (List Int32)) (n : Nat) (b : Bool) (d : Nat) (ml : List Value) (t : T) (Q : Option Value → T → Prop) (u v : Int32) (r : List Value) : vc xs zH_41 (n + 1) b d 41 21 ml (.int v :: .int u :: r) t Q = vc xs zH_41 n true d 41 22 ml (.int (u + v) :: r) t Q := by
  rw [vc_q (o := (6, 0, 0, 0, [])) (by decide +kernel)]; rfl
theorem v_41_22 (xs : Option (List Int32)) (n : Nat) (b : Bool) (d : Nat) (ml : List Value) (t : T) (Q : Option Value → T → Prop) (st : List Value) : vc xs zH_41 (n + 1) b d 41 22 ml st t Q = vgi ml 0 (fun v => vc xs zH_41 n true d 41 23 ml (.int v :: st) t Q) := by
  rw [vc_q (o := (1, 0, 0, 0, [])) (by decide +kernel)]; rfl
theorem v_41_23 (xs : Option (List Int32)) (n : Nat) (b : Bool) (d : Nat) (ml : List Value) (t : T) (Q : Option Value → T → Prop) (u v : Int32) (r : List Value) : vc xs zH_41 (n + 1) b d 41 23 ml (.int v :: .int u :: r) t Q = vc xs zH_41 n true d 41 24 ml (.int (u + v) :: r) t Q := by
  rw [vc_q (o := (6, 0, 0, 0, [])) (by decide +kernel)]; rfl
theorem v_41_24 (xs : Option (List Int32)) (n : Nat) (b : Bool) (d : Nat) (ml : List Value) (t : T) (Q : Option Value → T → Prop) (st : List Value) : vc xs zH_41 (n + 1) b d 41 24 ml st t Q = vc xs zH_41 n true d 41 40 ml st t Q := by
  rw [vc_q (o := (22, 0, 40, 0, [])) (by decide +kernel)]; rfl
theorem v_41_27 (xs : Option (List Int32)) (n : Nat) (b : Bool) (d : Nat) (ml : List Value) (t : T) (Q : Option Value → T → Prop) (st : List Value) : vc xs zH_41 (n + 1) b d 41 27 ml st t Q = vc xs zH_41 n true d 41 29 ml (.int 27 :: st) t Q := by
  rw [vc_q (o := (0, 27, 1, 0, [])) (by decide +kernel)]; rfl
theorem v_41_29 (xs : Option (List Int32)) (n : Nat) (b : Bool) (d : Nat) (ml : List Value) (t : T) (Q : Option Value → T → Prop) (st : List Value) : vc xs zH_41 (n + 1) b d 41 29 ml st t Q = vc xs zH_41 n true d 41 30 ml (.int 2 :: st) t Q := by
  rw [vc_q (o := (0, 2, 0, 0, [])) (by decide +kernel)]; rfl
theorem v_41_30 (xs : Option (List Int32)) (n : Nat) (b : Bool) (d : Nat) (ml : List Value) (t : T) (Q : Option Value → T → Prop) (st : List Value) : vc xs zH_41 (n + 1) b d 41 30 ml st t Q = vc xs zH_41 n true d 41 32 ml (.int 6 :: st) t Q := by
  rw [vc_q (o := (0, 6, 1, 0, [])) (by decide +kernel)]; rfl
theorem v_41_32 (xs : Option (List Int32)) (n : Nat) (b : Bool) (d : Nat) (ml : List Value) (t : T) (Q : Option Value → T → Prop) (st : List Value) : vc xs zH_41 (n + 1) b d 41 32 ml st t Q = vgi ml 1 (fun v => vc xs zH_41 n true d 41 33 ml (.int v :: st) t Q) := by
  rw [vc_q (o := (1, 0, 1, 0, [])) (by decide +kernel)]; rfl
theorem v_41_33 (xs : Option (List Int32)) (n : Nat) (b : Bool) (d : Nat) (ml : List Value) (t : T) (Q : Option Value → T → Prop) (u v : Int32) (r : List Value) : vc xs zH_41 (n + 1) b d 41 33 ml (.int v :: .int u :: r) t Q = vc xs zH_41 n true d 41 34 ml (.int (u * v) :: r) t Q := by
  rw [vc_q (o := (8, 0, 0, 0, [])) (by decide +kernel)]; rfl
theorem v_41_34 (xs : Option (List Int32)) (n : Nat) (b : Bool) (d : Nat) (ml : List Value) (t : T) (Q : Option Value → T → Prop) (st : List Value) : vc xs zH_41 (n + 1) b d 41 34 ml st t Q = vgi ml 2 (fun v => vc xs zH_41 n true d 41 35 ml (.int v :: st) t Q) := by
  rw [vc_q (o := (1, 0, 2, 0, [])) (by decide +kernel)]; rfl
theorem v_41_35 (xs : Option (List Int32)) (n : Nat) (b : Bool) (d : Nat) (ml : List Value) (t : T) (Q : Option Value → T → Prop) (u v : Int32) (r : List Value) : vc xs zH_41 (n + 1) b d 41 35 ml (.int v :: .int u :: r) t Q = vc xs zH_41 n true d 41 36 ml (.int (u + v) :: r) t Q := by
  rw [vc_q (o := (6, 0, 0, 0, [])) (by decide +kernel)]; rfl
theorem v_41_36 (xs : Option (List Int32)) (n : Nat) (b : Bool) (d : Nat) (ml : List Value) (t : T) (Q : Option Value → T → Prop) (u v : Int32) (r : List Value) : vc xs zH_41 (n + 1) b d 41 36 ml (.int v :: .int u :: r) t Q = vc xs zH_41 n true d 41 37 ml (.int (u * v) :: r) t Q := by
  rw [vc_q (o := (8, 0, 0, 0, [])) (by decide +kernel)]; rfl
theorem v_41_37 (xs : Option (List Int32)) (n : Nat) (b : Bool) (d : Nat) (ml : List Value) (t : T) (Q : Option Value → T → Prop) (u v : Int32) (r : List Value) : vc xs zH_41 (n + 1) b d 41 37 ml (.int v :: .int u :: r) t Q = vc xs zH_41 n true d 41 38 ml (.int (u + v) :: r) t Q := by
  rw [vc_q (o := (6, 0, 0, 0, [])) (by decide +kernel)]; rfl
theorem v_41_38 (xs : Option (List Int32)) (n : Nat) (b : Bool) (d : Nat) (ml : List Value) (t : T) (Q : Option Value → T → Prop) (st : List Value) : vc xs zH_41 (n + 1) b d 41 38 ml st t Q = vgi ml 0 (fun v => vc xs zH_41 n true d 41 39 ml (.int v :: st) t Q) := by
  rw [vc_q (o := (1, 0, 0, 0, [])) (by decide +kernel)]; rfl
theorem v_41_39 (xs : Option (List Int32)) (n : Nat) (b : Bool) (d : Nat) (ml : List Value) (t : T) (Q : Option Value → T → Prop) (u v : Int32) (r : List Value) : vc xs zH_41 (n + 1) b d 41 39 ml (.int v :: .int u :: r) t Q = vc xs zH_41 n true d 41 40 ml (.int (u + v) :: r) t Q := by
  rw [vc_q (o := (6, 0, 0, 0, [])) (by decide +kernel)]; rfl
theorem v_41_40 (xs : Option (List Int32)) (n : Nat) (b : Bool) (d : Nat) (ml : List Value) (t : T) (Q : Option Value → T → Prop) (v : Int32) : vc xs zH_41 (n + 1) b d 41 40 ml [.int v] t Q = Q (some (.int v)) t := by
  rw [vc_q (o := (40, 0, 0, 0, [])) (by decide +kernel)]; rfl
def zH_42 : List Nat := []
theorem v_42_0 (xs : Option (List Int32)) (n : Nat) (b : Bool) (d : Nat) (ml : List Value) (t : T) (Q : Option Value → T → Prop) (st : List Value) : vc xs zH_42 (n + 1) b d 42 0 ml st t Q = vga ml 0 (fun v => vc xs zH_42 n true d 42 1 ml (.ref v :: st) t Q) := by
  rw [vc_q (o := (2, 0, 0, 0, [])) (by decide +kernel)]; rfl
theorem v_42_1 (xs : Option (List Int32)) (n : Nat) (b : Bool) (d : Nat) (ml : List Value) (t : T) (Q : Option Value → T → Prop) (st : List Value) : vc xs zH_42 (n + 1) b d 42 1 ml st t Q = vgi ml 1 (fun v => vc xs zH_42 n true d 42 2 ml (.int v :: st) t Q) := by
  rw [vc_q (o := (1, 0, 1, 0, [])) (by decide +kernel)]; rfl
theorem v_42_2 (xs : Option (List Int32)) (n : Nat) (b : Bool) (d : Nat) (ml : List Value) (t : T) (Q : Option Value → T → Prop) (st : List Value) : vc xs zH_42 (n + 1) b d 42 2 ml st t Q = vc xs zH_42 n true d 42 3 ml (.int 3 :: st) t Q := by
  rw [vc_q (o := (0, 3, 0, 0, [])) (by decide +kernel)]; rfl
theorem v_42_3 (xs : Option (List Int32)) (n : Nat) (b : Bool) (d : Nat) (ml : List Value) (t : T) (Q : Option Value → T → Prop) (st : List Value) : vc xs zH_42 (n + 1) b d 42 3 ml st t Q = vc xs zH_42 n true d 42 4 ml (.int 5 :: st) t Q := by
  rw [vc_q (o := (0, 5, 0, 0, [])) (by decide +kernel)]; rfl
theorem v_42_4 (xs : Option (List Int32)) (n : Nat) (b : Bool) (d : Nat) (ml : List Value) (t : T) (Q : Option Value → T → Prop) (st : List Value) : vc xs zH_42 (n + 1) b d 42 4 ml st t Q = vgi ml 2 (fun v => vc xs zH_42 n true d 42 5 ml (.int v :: st) t Q) := by
  rw [vc_q (o := (1, 0, 2, 0, [])) (by decide +kernel)]; rfl
theorem v_42_5 (xs : Option (List Int32)) (n : Nat) (b : Bool) (d : Nat) (ml : List Value) (t : T) (Q : Option Value → T → Prop) (u v : Int32) (r : List Value) : vc xs zH_42 (n + 1) b d 42 5 ml (.int v :: .int u :: r) t Q = vc xs zH_42 n true d 42 6 ml (.int (u * v) :: r) t Q := by
  rw [vc_q (o := (8, 0, 0, 0, [])) (by decide +kernel)]; rfl
theorem v_42_6 (xs : Option (List Int32)) (n : Nat) (b : Bool) (d : Nat) (ml : List Value) (t : T) (Q : Option Value → T → Prop) (u v : Int32) (r : List Value) : vc xs zH_42 (n + 1) b d 42 6 ml (.int v :: .int u :: r) t Q = vc xs zH_42 n true d 42 7 ml (.int (u + v) :: r) t Q := by
  rw [vc_q (o := (6, 0, 0, 0, [])) (by decide +kernel)]; rfl
theorem v_42_7 (xs : Option (List Int32)) (n : Nat) (b : Bool) (d : Nat) (ml : List Value) (t : T) (Q : Option Value → T → Prop) (st : List Value) : vc xs zH_42 (n + 1) b d 42 7 ml st t Q = (st.all zc1 = true ∧ vtk 3 st [] (fun as rest => rest.length ≤ 8 ∧ vrc as 12 (twc d 38 as t (fun r t' => vc xs zH_42 n true d 42 10 ml (r.toList ++ rest) t' Q)))) := by
  rw [vc_q (o := (36, 0, 38, 2, [(0, 12)])) (by decide +kernel)]; rfl
theorem v_42_10 (xs : Option (List Int32)) (n : Nat) (b : Bool) (d : Nat) (ml : List Value) (t : T) (Q : Option Value → T → Prop) (st : List Value) : vc xs zH_42 (n + 1) b d 42 10 ml st t Q = vc xs zH_42 n true d 42 11 ml (.int 1 :: st) t Q := by
  rw [vc_q (o := (0, 1, 0, 0, [])) (by decide +kernel)]; rfl
theorem v_42_11 (xs : Option (List Int32)) (n : Nat) (b : Bool) (d : Nat) (ml : List Value) (t : T) (Q : Option Value → T → Prop) (u v : Int32) (r : List Value) : vc xs zH_42 (n + 1) b d 42 11 ml (.int v :: .int u :: r) t Q = (if u = v then vc xs zH_42 n true d 42 14 ml r t Q else vc xs zH_42 n true d 42 18 ml r t Q) := by
  rw [vc_q (o := (20, 0, 18, 1, [])) (by decide +kernel)]; rfl
theorem v_42_14 (xs : Option (List Int32)) (n : Nat) (b : Bool) (d : Nat) (ml : List Value) (t : T) (Q : Option Value → T → Prop) (st : List Value) : vc xs zH_42 (n + 1) b d 42 14 ml st t Q = vc xs zH_42 n true d 42 15 ml (.int 1 :: st) t Q := by
  rw [vc_q (o := (0, 1, 0, 0, [])) (by decide +kernel)]; rfl
theorem v_42_15 (xs : Option (List Int32)) (n : Nat) (b : Bool) (d : Nat) (ml : List Value) (t : T) (Q : Option Value → T → Prop) (st : List Value) : vc xs zH_42 (n + 1) b d 42 15 ml st t Q = vc xs zH_42 n true d 42 19 ml st t Q := by
  rw [vc_q (o := (22, 0, 19, 0, [])) (by decide +kernel)]; rfl
theorem v_42_18 (xs : Option (List Int32)) (n : Nat) (b : Bool) (d : Nat) (ml : List Value) (t : T) (Q : Option Value → T → Prop) (st : List Value) : vc xs zH_42 (n + 1) b d 42 18 ml st t Q = vc xs zH_42 n true d 42 19 ml (.int 0 :: st) t Q := by
  rw [vc_q (o := (0, 0, 0, 0, [])) (by decide +kernel)]; rfl
theorem v_42_19 (xs : Option (List Int32)) (n : Nat) (b : Bool) (d : Nat) (ml : List Value) (t : T) (Q : Option Value → T → Prop) (v : Int32) : vc xs zH_42 (n + 1) b d 42 19 ml [.int v] t Q = ((v = 0 ∨ v = 1) ∧ Q (some (.int v)) t) := by
  rw [vc_q (o := (41, 0, 0, 0, [])) (by decide +kernel)]; rfl
def zH_43 : List Nat := []
theorem v_43_0 (xs : Option (List Int32)) (n : Nat) (b : Bool) (d : Nat) (ml : List Value) (t : T) (Q : Option Value → T → Prop) (st : List Value) : vc xs zH_43 (n + 1) b d 43 0 ml st t Q = vgi ml 2 (fun v => vc xs zH_43 n true d 43 1 ml (.int v :: st) t Q) := by
  rw [vc_q (o := (1, 0, 2, 0, [])) (by decide +kernel)]; rfl
theorem v_43_1 (xs : Option (List Int32)) (n : Nat) (b : Bool) (d : Nat) (ml : List Value) (t : T) (Q : Option Value → T → Prop) (st : List Value) : vc xs zH_43 (n + 1) b d 43 1 ml st t Q = vc xs zH_43 n true d 43 3 ml (.int 8 :: st) t Q := by
  rw [vc_q (o := (0, 8, 1, 0, [])) (by decide +kernel)]; rfl
theorem v_43_3 (xs : Option (List Int32)) (n : Nat) (b : Bool) (d : Nat) (ml : List Value) (t : T) (Q : Option Value → T → Prop) (u v : Int32) (r : List Value) : vc xs zH_43 (n + 1) b d 43 3 ml (.int v :: .int u :: r) t Q = (if u = v then vc xs zH_43 n true d 43 6 ml r t Q else vc xs zH_43 n true d 43 31 ml r t Q) := by
  rw [vc_q (o := (20, 0, 31, 1, [])) (by decide +kernel)]; rfl
theorem v_43_6 (xs : Option (List Int32)) (n : Nat) (b : Bool) (d : Nat) (ml : List Value) (t : T) (Q : Option Value → T → Prop) (st : List Value) : vc xs zH_43 (n + 1) b d 43 6 ml st t Q = vgi ml 3 (fun v => vc xs zH_43 n true d 43 7 ml (.int v :: st) t Q) := by
  rw [vc_q (o := (1, 0, 3, 0, [])) (by decide +kernel)]; rfl
theorem v_43_7 (xs : Option (List Int32)) (n : Nat) (b : Bool) (d : Nat) (ml : List Value) (t : T) (Q : Option Value → T → Prop) (st : List Value) : vc xs zH_43 (n + 1) b d 43 7 ml st t Q = vgi ml 4 (fun v => vc xs zH_43 n true d 43 9 ml (.int v :: st) t Q) := by
  rw [vc_q (o := (1, 0, 4, 1, [])) (by decide +kernel)]; rfl
theorem v_43_9 (xs : Option (List Int32)) (n : Nat) (b : Bool) (d : Nat) (ml : List Value) (t : T) (Q : Option Value → T → Prop) (u v : Int32) (r : List Value) : vc xs zH_43 (n + 1) b d 43 9 ml (.int v :: .int u :: r) t Q = (if u = v then vc xs zH_43 n true d 43 16 ml r t Q else vc xs zH_43 n true d 43 12 ml r t Q) := by
  rw [vc_q (o := (20, 0, 16, 0, [])) (by decide +kernel)]; rfl
theorem v_43_12 (xs : Option (List Int32)) (n : Nat) (b : Bool) (d : Nat) (ml : List Value) (t : T) (Q : Option Value → T → Prop) (st : List Value) : vc xs zH_43 (n + 1) b d 43 12 ml st t Q = vc xs zH_43 n true d 43 13 ml (.int 0 :: st) t Q := by
  rw [vc_q (o := (0, 0, 0, 0, [])) (by decide +kernel)]; rfl
theorem v_43_13 (xs : Option (List Int32)) (n : Nat) (b : Bool) (d : Nat) (ml : List Value) (t : T) (Q : Option Value → T → Prop) (st : List Value) : vc xs zH_43 (n + 1) b d 43 13 ml st t Q = vc xs zH_43 n true d 43 30 ml st t Q := by
  rw [vc_q (o := (22, 0, 30, 0, [])) (by decide +kernel)]; rfl
theorem v_43_16 (xs : Option (List Int32)) (n : Nat) (b : Bool) (d : Nat) (ml : List Value) (t : T) (Q : Option Value → T → Prop) (st : List Value) : vc xs zH_43 (n + 1) b d 43 16 ml st t Q = vga ml 0 (fun v => vc xs zH_43 n true d 43 17 ml (.ref v :: st) t Q) := by
  rw [vc_q (o := (2, 0, 0, 0, [])) (by decide +kernel)]; rfl
theorem v_43_17 (xs : Option (List Int32)) (n : Nat) (b : Bool) (d : Nat) (ml : List Value) (t : T) (Q : Option Value → T → Prop) (st : List Value) : vc xs zH_43 (n + 1) b d 43 17 ml st t Q = vgi ml 1 (fun v => vc xs zH_43 n true d 43 18 ml (.int v :: st) t Q) := by
  rw [vc_q (o := (1, 0, 1, 0, [])) (by decide +kernel)]; rfl
theorem v_43_18 (xs : Option (List Int32)) (n : Nat) (b : Bool) (d : Nat) (ml : List Value) (t : T) (Q : Option Value → T → Prop) (st : List Value) : vc xs zH_43 (n + 1) b d 43 18 ml st t Q = vgi ml 3 (fun v => vc xs zH_43 n true d 43 19 ml (.int v :: st) t Q) := by
  rw [vc_q (o := (1, 0, 3, 0, [])) (by decide +kernel)]; rfl
theorem v_43_19 (xs : Option (List Int32)) (n : Nat) (b : Bool) (d : Nat) (ml : List Value) (t : T) (Q : Option Value → T → Prop) (st : List Value) : vc xs zH_43 (n + 1) b d 43 19 ml st t Q = (st.all zc1 = true ∧ vtk 3 st [] (fun as rest => rest.length ≤ 8 ∧ vrc as 12 (twc d 42 as t (fun r t' => vc xs zH_43 n true d 43 22 ml (r.toList ++ rest) t' Q)))) := by
  rw [vc_q (o := (36, 0, 42, 2, [(0, 12)])) (by decide +kernel)]; rfl
theorem v_43_22 (xs : Option (List Int32)) (n : Nat) (b : Bool) (d : Nat) (ml : List Value) (t : T) (Q : Option Value → T → Prop) (u : Int32) (r : List Value) : vc xs zH_43 (n + 1) b d 43 22 ml (.int u :: r) t Q = (if u = 0 then vc xs zH_43 n true d 43 29 ml r t Q else vc xs zH_43 n true d 43 25 ml r t Q) := by
  rw [vc_q (o := (21, 0, 29, 0, [])) (by decide +kernel)]; rfl
theorem v_43_25 (xs : Option (List Int32)) (n : Nat) (b : Bool) (d : Nat) (ml : List Value) (t : T) (Q : Option Value → T → Prop) (st : List Value) : vc xs zH_43 (n + 1) b d 43 25 ml st t Q = vc xs zH_43 n true d 43 26 ml (.int 2 :: st) t Q := by
  rw [vc_q (o := (0, 2, 0, 0, [])) (by decide +kernel)]; rfl
theorem v_43_26 (xs : Option (List Int32)) (n : Nat) (b : Bool) (d : Nat) (ml : List Value) (t : T) (Q : Option Value → T → Prop) (st : List Value) : vc xs zH_43 (n + 1) b d 43 26 ml st t Q = vc xs zH_43 n true d 43 30 ml st t Q := by
  rw [vc_q (o := (22, 0, 30, 0, [])) (by decide +kernel)]; rfl
theorem v_43_29 (xs : Option (List Int32)) (n : Nat) (b : Bool) (d : Nat) (ml : List Value) (t : T) (Q : Option Value → T → Prop) (st : List Value) : vc xs zH_43 (n + 1) b d 43 29 ml st t Q = vc xs zH_43 n true d 43 30 ml (.int 1 :: st) t Q := by
  rw [vc_q (o := (0, 1, 0, 0, [])) (by decide +kernel)]; rfl
theorem v_43_30 (xs : Option (List Int32)) (n : Nat) (b : Bool) (d : Nat) (ml : List Value) (t : T) (Q : Option Value → T → Prop) (v : Int32) : vc xs zH_43 (n + 1) b d 43 30 ml [.int v] t Q = Q (some (.int v)) t := by
  rw [vc_q (o := (40, 0, 0, 0, [])) (by decide +kernel)]; rfl
theorem v_43_31 (xs : Option (List Int32)) (n : Nat) (b : Bool) (d : Nat) (ml : List Value) (t : T) (Q : Option Value → T → Prop) (st : List Value) : vc xs zH_43 (n + 1) b d 43 31 ml st t Q = vga ml 0 (fun v => vc xs zH_43 n true d 43 32 ml (.ref v :: st) t Q) := by
  rw [vc_q (o := (2, 0, 0, 0, [])) (by decide +kernel)]; rfl
theorem v_43_32 (xs : Option (List Int32)) (n : Nat) (b : Bool) (d : Nat) (ml : List Value) (t : T) (Q : Option Value → T → Prop) (st : List Value) : vc xs zH_43 (n + 1) b d 43 32 ml st t Q = vgi ml 1 (fun v => vc xs zH_43 n true d 43 33 ml (.int v :: st) t Q) := by
  rw [vc_q (o := (1, 0, 1, 0, [])) (by decide +kernel)]; rfl
theorem v_43_33 (xs : Option (List Int32)) (n : Nat) (b : Bool) (d : Nat) (ml : List Value) (t : T) (Q : Option Value → T → Prop) (st : List Value) : vc xs zH_43 (n + 1) b d 43 33 ml st t Q = vgi ml 2 (fun v => vc xs zH_43 n true d 43 34 ml (.int v :: st) t Q) := by
  rw [vc_q (o := (1, 0, 2, 0, [])) (by decide +kernel)]; rfl
theorem v_43_34 (xs : Option (List Int32)) (n : Nat) (b : Bool) (d : Nat) (ml : List Value) (t : T) (Q : Option Value → T → Prop) (st : List Value) : vc xs zH_43 (n + 1) b d 43 34 ml st t Q = vgi ml 3 (fun v => vc xs zH_43 n true d 43 35 ml (.int v :: st) t Q) := by
  rw [vc_q (o := (1, 0, 3, 0, [])) (by decide +kernel)]; rfl
theorem v_43_35 (xs : Option (List Int32)) (n : Nat) (b : Bool) (d : Nat) (ml : List Value) (t : T) (Q : Option Value → T → Prop) (st : List Value) : vc xs zH_43 (n + 1) b d 43 35 ml st t Q = vgi ml 4 (fun v => vc xs zH_43 n true d 43 37 ml (.int v :: st) t Q) := by
  rw [vc_q (o := (1, 0, 4, 1, [])) (by decide +kernel)]; rfl
theorem v_43_37 (xs : Option (List Int32)) (n : Nat) (b : Bool) (d : Nat) (ml : List Value) (t : T) (Q : Option Value → T → Prop) (st : List Value) : vc xs zH_43 (n + 1) b d 43 37 ml st t Q = (st.all zc1 = true ∧ vtk 3 st [] (fun as rest => rest.length ≤ 8 ∧ twc d 41 as t (fun r t' => vc xs zH_43 n true d 43 40 ml (r.toList ++ rest) t' Q))) := by
  rw [vc_q (o := (37, 0, 41, 3, [])) (by decide +kernel)]; rfl
theorem v_43_40 (xs : Option (List Int32)) (n : Nat) (b : Bool) (d : Nat) (ml : List Value) (t : T) (Q : Option Value → T → Prop) (st : List Value) : vc xs zH_43 (n + 1) b d 43 40 ml st t Q = (st.all zc1 = true ∧ vtk 3 st [] (fun as rest => rest.length ≤ 8 ∧ vrc as 12 (twc d 38 as t (fun r t' => vc xs zH_43 n true d 43 43 ml (r.toList ++ rest) t' Q)))) := by
  rw [vc_q (o := (36, 0, 38, 2, [(0, 12)])) (by decide +kernel)]; rfl
theorem v_43_43 (xs : Option (List Int32)) (n : Nat) (b : Bool) (d : Nat) (ml : List Value) (t : T) (Q : Option Value → T → Prop) (v : Int32) : vc xs zH_43 (n + 1) b d 43 43 ml [.int v] t Q = Q (some (.int v)) t := by
  rw [vc_q (o := (40, 0, 0, 0, [])) (by decide +kernel)]; rfl
def zH_44 : List Nat := [2]
theorem v_44_0 (xs : Option (List Int32)) (n : Nat) (b : Bool) (d : Nat) (ml : List Value) (t : T) (Q : Option Value → T → Prop) (st : List Value) : vc xs zH_44 (n + 1) b d 44 0 ml st t Q = vc xs zH_44 n true d 44 1 ml (.int 0 :: st) t Q := by
  rw [vc_q (o := (0, 0, 0, 0, [])) (by decide +kernel)]; rfl
theorem v_44_1 (xs : Option (List Int32)) (n : Nat) (b : Bool) (d : Nat) (ml : List Value) (t : T) (Q : Option Value → T → Prop) (v : Int32) (r : List Value) : vc xs zH_44 (n + 1) b d 44 1 ml (.int v :: r) t Q = vset ml 3 (.int v) (fun l => vc xs zH_44 n true d 44 2 l r t Q) := by
  rw [vc_q (o := (3, 0, 3, 0, [])) (by decide +kernel)]; rfl
theorem v_44_2 (xs : Option (List Int32)) (n : Nat) (d : Nat) (ml : List Value) (t : T) (Q : Option Value → T → Prop) (st : List Value) : vc xs zH_44 (n + 1) false d 44 2 ml st t Q = vgi ml 3 (fun v => vc xs zH_44 n true d 44 3 ml (.int v :: st) t Q) := by
  rw [vc_q (o := (1, 0, 3, 0, [])) (by decide +kernel)]; rfl
theorem h_44_2 (xs : Option (List Int32)) (n d : Nat) (ml st : List Value) (t : T) (Q : Option Value → T → Prop) : vc xs zH_44 (n + 1) true d 44 2 ml st t Q = twp xs d 44 2 ml st t Q := id rfl
theorem v_44_3 (xs : Option (List Int32)) (n : Nat) (b : Bool) (d : Nat) (ml : List Value) (t : T) (Q : Option Value → T → Prop) (st : List Value) : vc xs zH_44 (n + 1) b d 44 3 ml st t Q = vc xs zH_44 n true d 44 5 ml (.int 105 :: st) t Q := by
  rw [vc_q (o := (0, 105, 1, 0, [])) (by decide +kernel)]; rfl
theorem v_44_5 (xs : Option (List Int32)) (n : Nat) (b : Bool) (d : Nat) (ml : List Value) (t : T) (Q : Option Value → T → Prop) (u v : Int32) (r : List Value) : vc xs zH_44 (n + 1) b d 44 5 ml (.int v :: .int u :: r) t Q = (if u < v then vc xs zH_44 n true d 44 8 ml r t Q else vc xs zH_44 n true d 44 26 ml r t Q) := by
  rw [vc_q (o := (20, 0, 26, 3, [])) (by decide +kernel)]; rfl
theorem v_44_8 (xs : Option (List Int32)) (n : Nat) (b : Bool) (d : Nat) (ml : List Value) (t : T) (Q : Option Value → T → Prop) (st : List Value) : vc xs zH_44 (n + 1) b d 44 8 ml st t Q = vga ml 0 (fun v => vc xs zH_44 n true d 44 9 ml (.ref v :: st) t Q) := by
  rw [vc_q (o := (2, 0, 0, 0, [])) (by decide +kernel)]; rfl
theorem v_44_9 (xs : Option (List Int32)) (n : Nat) (b : Bool) (d : Nat) (ml : List Value) (t : T) (Q : Option Value → T → Prop) (st : List Value) : vc xs zH_44 (n + 1) b d 44 9 ml st t Q = vgi ml 2 (fun v => vc xs zH_44 n true d 44 10 ml (.int v :: st) t Q) := by
  rw [vc_q (o := (1, 0, 2, 0, [])) (by decide +kernel)]; rfl
theorem v_44_10 (xs : Option (List Int32)) (n : Nat) (b : Bool) (d : Nat) (ml : List Value) (t : T) (Q : Option Value → T → Prop) (st : List Value) : vc xs zH_44 (n + 1) b d 44 10 ml st t Q = vgi ml 3 (fun v => vc xs zH_44 n true d 44 11 ml (.int v :: st) t Q) := by
  rw [vc_q (o := (1, 0, 3, 0, [])) (by decide +kernel)]; rfl
theorem v_44_11 (xs : Option (List Int32)) (n : Nat) (b : Bool) (d : Nat) (ml : List Value) (t : T) (Q : Option Value → T → Prop) (st : List Value) : vc xs zH_44 (n + 1) b d 44 11 ml st t Q = vga ml 0 (fun v => vc xs zH_44 n true d 44 12 ml (.ref v :: st) t Q) := by
  rw [vc_q (o := (2, 0, 0, 0, [])) (by decide +kernel)]; rfl
theorem v_44_12 (xs : Option (List Int32)) (n : Nat) (b : Bool) (d : Nat) (ml : List Value) (t : T) (Q : Option Value → T → Prop) (st : List Value) : vc xs zH_44 (n + 1) b d 44 12 ml st t Q = vgi ml 1 (fun v => vc xs zH_44 n true d 44 13 ml (.int v :: st) t Q) := by
  rw [vc_q (o := (1, 0, 1, 0, [])) (by decide +kernel)]; rfl
theorem v_44_13 (xs : Option (List Int32)) (n : Nat) (b : Bool) (d : Nat) (ml : List Value) (t : T) (Q : Option Value → T → Prop) (st : List Value) : vc xs zH_44 (n + 1) b d 44 13 ml st t Q = vgi ml 3 (fun v => vc xs zH_44 n true d 44 14 ml (.int v :: st) t Q) := by
  rw [vc_q (o := (1, 0, 3, 0, [])) (by decide +kernel)]; rfl
theorem v_44_14 (xs : Option (List Int32)) (n : Nat) (b : Bool) (d : Nat) (ml : List Value) (t : T) (Q : Option Value → T → Prop) (st : List Value) : vc xs zH_44 (n + 1) b d 44 14 ml st t Q = (st.all zc1 = true ∧ vtk 3 st [] (fun as rest => rest.length ≤ 8 ∧ vrc as 12 (twc d 38 as t (fun r t' => vc xs zH_44 n true d 44 17 ml (r.toList ++ rest) t' Q)))) := by
  rw [vc_q (o := (36, 0, 38, 2, [(0, 12)])) (by decide +kernel)]; rfl
theorem v_44_17 (xs : Option (List Int32)) (n : Nat) (b : Bool) (d : Nat) (ml : List Value) (t : T) (Q : Option Value → T → Prop) (st : List Value) : vc xs zH_44 (n + 1) b d 44 17 ml st t Q = (st.all zc1 = true ∧ vtk 4 st [] (fun as rest => rest.length ≤ 8 ∧ vrc as 12 (twc d 39 as t (fun r t' => vc xs zH_44 n true d 44 20 ml (r.toList ++ rest) t' Q)))) := by
  rw [vc_q (o := (36, 0, 39, 3, [(0, 12)])) (by decide +kernel)]; rfl
theorem v_44_20 (xs : Option (List Int32)) (n : Nat) (b : Bool) (d : Nat) (ml : List Value) (t : T) (Q : Option Value → T → Prop) (st : List Value) : vc xs zH_44 (n + 1) b d 44 20 ml st t Q = vgi ml 3 (fun v => vset ml 3 (.int (v + 1)) (fun l => vc xs zH_44 n true d 44 23 l st t Q)) := by
  rw [vc_q (o := (5, 1, 3, 0, [])) (by decide +kernel)]; rfl
theorem v_44_23 (xs : Option (List Int32)) (n : Nat) (b : Bool) (d : Nat) (ml : List Value) (t : T) (Q : Option Value → T → Prop) (st : List Value) : vc xs zH_44 (n + 1) b d 44 23 ml st t Q = vc xs zH_44 n true d 44 2 ml st t Q := by
  rw [vc_q (o := (22, 0, 2, 0, [])) (by decide +kernel)]; rfl
theorem v_44_26 (xs : Option (List Int32)) (n : Nat) (b : Bool) (d : Nat) (ml : List Value) (t : T) (Q : Option Value → T → Prop)  : vc xs zH_44 (n + 1) b d 44 26 ml [] t Q = Q none t := by
  rw [vc_q (o := (43, 0, 0, 0, [])) (by decide +kernel)]; rfl
def zH_45 : List Nat := [33]
theorem v_45_0 (xs : Option (List Int32)) (n : Nat) (b : Bool) (d : Nat) (ml : List Value) (t : T) (Q : Option Value → T → Prop) (st : List Value) : vc xs zH_45 (n + 1) b d 45 0 ml st t Q = vga ml 0 (fun v => vc xs zH_45 n true d 45 1 ml (.ref v :: st) t Q) := by
  rw [vc_q (o := (2, 0, 0, 0, [])) (by decide +kernel)]; rfl
theorem v_45_1 (xs : Option (List Int32)) (n : Nat) (b : Bool) (d : Nat) (ml : List Value) (t : T) (Q : Option Value → T → Prop) (st : List Value) : vc xs zH_45 (n + 1) b d 45 1 ml st t Q = vgi ml 1 (fun v => vc xs zH_45 n true d 45 2 ml (.int v :: st) t Q) := by
  rw [vc_q (o := (1, 0, 1, 0, [])) (by decide +kernel)]; rfl
theorem v_45_2 (xs : Option (List Int32)) (n : Nat) (b : Bool) (d : Nat) (ml : List Value) (t : T) (Q : Option Value → T → Prop) (st : List Value) : vc xs zH_45 (n + 1) b d 45 2 ml st t Q = (st.all zc1 = true ∧ vtk 2 st [] (fun as rest => rest.length ≤ 8 ∧ vrc as 12 (twc d 40 as t (fun r t' => vc xs zH_45 n true d 45 5 ml (r.toList ++ rest) t' Q)))) := by
  rw [vc_q (o := (36, 0, 40, 1, [(0, 12)])) (by decide +kernel)]; rfl
theorem v_45_5 (xs : Option (List Int32)) (n : Nat) (b : Bool) (d : Nat) (ml : List Value) (t : T) (Q : Option Value → T → Prop) (v : Int32) (r : List Value) : vc xs zH_45 (n + 1) b d 45 5 ml (.int v :: r) t Q = vset ml 3 (.int v) (fun l => vc xs zH_45 n true d 45 6 l r t Q) := by
  rw [vc_q (o := (3, 0, 3, 0, [])) (by decide +kernel)]; rfl
theorem v_45_6 (xs : Option (List Int32)) (n : Nat) (b : Bool) (d : Nat) (ml : List Value) (t : T) (Q : Option Value → T → Prop) (st : List Value) : vc xs zH_45 (n + 1) b d 45 6 ml st t Q = vgi ml 3 (fun v => vc xs zH_45 n true d 45 7 ml (.int v :: st) t Q) := by
  rw [vc_q (o := (1, 0, 3, 0, [])) (by decide +kernel)]; rfl
theorem v_45_7 (xs : Option (List Int32)) (n : Nat) (b : Bool) (d : Nat) (ml : List Value) (t : T) (Q : Option Value → T → Prop) (st : List Value) : vc xs zH_45 (n + 1) b d 45 7 ml st t Q = vga ml 0 (fun v => vc xs zH_45 n true d 45 8 ml (.ref v :: st) t Q) := by
  rw [vc_q (o := (2, 0, 0, 0, [])) (by decide +kernel)]; rfl
theorem v_45_8 (xs : Option (List Int32)) (n : Nat) (b : Bool) (d : Nat) (ml : List Value) (t : T) (Q : Option Value → T → Prop) (st : List Value) : vc xs zH_45 (n + 1) b d 45 8 ml st t Q = vgi ml 2 (fun v => vc xs zH_45 n true d 45 9 ml (.int v :: st) t Q) := by
  rw [vc_q (o := (1, 0, 2, 0, [])) (by decide +kernel)]; rfl
theorem v_45_9 (xs : Option (List Int32)) (n : Nat) (b : Bool) (d : Nat) (ml : List Value) (t : T) (Q : Option Value → T → Prop) (st : List Value) : vc xs zH_45 (n + 1) b d 45 9 ml st t Q = (st.all zc1 = true ∧ vtk 2 st [] (fun as rest => rest.length ≤ 8 ∧ vrc as 12 (twc d 40 as t (fun r t' => vc xs zH_45 n true d 45 12 ml (r.toList ++ rest) t' Q)))) := by
  rw [vc_q (o := (36, 0, 40, 1, [(0, 12)])) (by decide +kernel)]; rfl
theorem v_45_12 (xs : Option (List Int32)) (n : Nat) (b : Bool) (d : Nat) (ml : List Value) (t : T) (Q : Option Value → T → Prop) (u v : Int32) (r : List Value) : vc xs zH_45 (n + 1) b d 45 12 ml (.int v :: .int u :: r) t Q = (if u = v then vc xs zH_45 n true d 45 30 ml r t Q else vc xs zH_45 n true d 45 15 ml r t Q) := by
  rw [vc_q (o := (20, 0, 30, 0, [])) (by decide +kernel)]; rfl
theorem v_45_15 (xs : Option (List Int32)) (n : Nat) (b : Bool) (d : Nat) (ml : List Value) (t : T) (Q : Option Value → T → Prop) (st : List Value) : vc xs zH_45 (n + 1) b d 45 15 ml st t Q = vgi ml 3 (fun v => vc xs zH_45 n true d 45 16 ml (.int v :: st) t Q) := by
  rw [vc_q (o := (1, 0, 3, 0, [])) (by decide +kernel)]; rfl
theorem v_45_16 (xs : Option (List Int32)) (n : Nat) (b : Bool) (d : Nat) (ml : List Value) (t : T) (Q : Option Value → T → Prop) (st : List Value) : vc xs zH_45 (n + 1) b d 45 16 ml st t Q = vga ml 0 (fun v => vc xs zH_45 n true d 45 17 ml (.ref v :: st) t Q) := by
  rw [vc_q (o := (2, 0, 0, 0, [])) (by decide +kernel)]; rfl
theorem v_45_17 (xs : Option (List Int32)) (n : Nat) (b : Bool) (d : Nat) (ml : List Value) (t : T) (Q : Option Value → T → Prop) (st : List Value) : vc xs zH_45 (n + 1) b d 45 17 ml st t Q = vgi ml 2 (fun v => vc xs zH_45 n true d 45 18 ml (.int v :: st) t Q) := by
  rw [vc_q (o := (1, 0, 2, 0, [])) (by decide +kernel)]; rfl
theorem v_45_18 (xs : Option (List Int32)) (n : Nat) (b : Bool) (d : Nat) (ml : List Value) (t : T) (Q : Option Value → T → Prop) (st : List Value) : vc xs zH_45 (n + 1) b d 45 18 ml st t Q = (st.all zc1 = true ∧ vtk 2 st [] (fun as rest => rest.length ≤ 8 ∧ vrc as 12 (twc d 40 as t (fun r t' => vc xs zH_45 n true d 45 21 ml (r.toList ++ rest) t' Q)))) := by
  rw [vc_q (o := (36, 0, 40, 1, [(0, 12)])) (by decide +kernel)]; rfl
theorem v_45_21 (xs : Option (List Int32)) (n : Nat) (b : Bool) (d : Nat) (ml : List Value) (t : T) (Q : Option Value → T → Prop) (u v : Int32) (r : List Value) : vc xs zH_45 (n + 1) b d 45 21 ml (.int v :: .int u :: r) t Q = (if u < v then vc xs zH_45 n true d 45 24 ml r t Q else vc xs zH_45 n true d 45 28 ml r t Q) := by
  rw [vc_q (o := (20, 0, 28, 3, [])) (by decide +kernel)]; rfl
theorem v_45_24 (xs : Option (List Int32)) (n : Nat) (b : Bool) (d : Nat) (ml : List Value) (t : T) (Q : Option Value → T → Prop) (st : List Value) : vc xs zH_45 (n + 1) b d 45 24 ml st t Q = vc xs zH_45 n true d 45 25 ml (.int (-1) :: st) t Q := by
  rw [vc_q (o := (0, (-1), 0, 0, [])) (by decide +kernel)]; rfl
theorem v_45_25 (xs : Option (List Int32)) (n : Nat) (b : Bool) (d : Nat) (ml : List Value) (t : T) (Q : Option Value → T → Prop) (st : List Value) : vc xs zH_45 (n + 1) b d 45 25 ml st t Q = vc xs zH_45 n true d 45 29 ml st t Q := by
  rw [vc_q (o := (22, 0, 29, 0, [])) (by decide +kernel)]; rfl
theorem v_45_28 (xs : Option (List Int32)) (n : Nat) (b : Bool) (d : Nat) (ml : List Value) (t : T) (Q : Option Value → T → Prop) (st : List Value) : vc xs zH_45 (n + 1) b d 45 28 ml st t Q = vc xs zH_45 n true d 45 29 ml (.int 1 :: st) t Q := by
  rw [vc_q (o := (0, 1, 0, 0, [])) (by decide +kernel)]; rfl
theorem v_45_29 (xs : Option (List Int32)) (n : Nat) (b : Bool) (d : Nat) (ml : List Value) (t : T) (Q : Option Value → T → Prop) (v : Int32) : vc xs zH_45 (n + 1) b d 45 29 ml [.int v] t Q = Q (some (.int v)) t := by
  rw [vc_q (o := (40, 0, 0, 0, [])) (by decide +kernel)]; rfl
theorem v_45_30 (xs : Option (List Int32)) (n : Nat) (b : Bool) (d : Nat) (ml : List Value) (t : T) (Q : Option Value → T → Prop) (st : List Value) : vc xs zH_45 (n + 1) b d 45 30 ml st t Q = vc xs zH_45 n true d 45 31 ml (.int 1 :: st) t Q := by
  rw [vc_q (o := (0, 1, 0, 0, [])) (by decide +kernel)]; rfl
theorem v_45_31 (xs : Option (List Int32)) (n : Nat) (b : Bool) (d : Nat) (ml : List Value) (t : T) (Q : Option Value → T → Prop) (v : Int32) (r : List Value) : vc xs zH_45 (n + 1) b d 45 31 ml (.int v :: r) t Q = vset ml 4 (.int v) (fun l => vc xs zH_45 n true d 45 33 l r t Q) := by
  rw [vc_q (o := (3, 0, 4, 1, [])) (by decide +kernel)]; rfl
theorem v_45_33 (xs : Option (List Int32)) (n : Nat) (d : Nat) (ml : List Value) (t : T) (Q : Option Value → T → Prop) (st : List Value) : vc xs zH_45 (n + 1) false d 45 33 ml st t Q = vgi ml 4 (fun v => vc xs zH_45 n true d 45 35 ml (.int v :: st) t Q) := by
  rw [vc_q (o := (1, 0, 4, 1, [])) (by decide +kernel)]; rfl
theorem h_45_33 (xs : Option (List Int32)) (n d : Nat) (ml st : List Value) (t : T) (Q : Option Value → T → Prop) : vc xs zH_45 (n + 1) true d 45 33 ml st t Q = twp xs d 45 33 ml st t Q := id rfl
theorem v_45_35 (xs : Option (List Int32)) (n : Nat) (b : Bool) (d : Nat) (ml : List Value) (t : T) (Q : Option Value → T → Prop) (st : List Value) : vc xs zH_45 (n + 1) b d 45 35 ml st t Q = vc xs zH_45 n true d 45 37 ml (.int 105 :: st) t Q := by
  rw [vc_q (o := (0, 105, 1, 0, [])) (by decide +kernel)]; rfl
theorem v_45_37 (xs : Option (List Int32)) (n : Nat) (b : Bool) (d : Nat) (ml : List Value) (t : T) (Q : Option Value → T → Prop) (u v : Int32) (r : List Value) : vc xs zH_45 (n + 1) b d 45 37 ml (.int v :: .int u :: r) t Q = (if u < v then vc xs zH_45 n true d 45 40 ml r t Q else vc xs zH_45 n true d 45 86 ml r t Q) := by
  rw [vc_q (o := (20, 0, 86, 3, [])) (by decide +kernel)]; rfl
theorem v_45_40 (xs : Option (List Int32)) (n : Nat) (b : Bool) (d : Nat) (ml : List Value) (t : T) (Q : Option Value → T → Prop) (st : List Value) : vc xs zH_45 (n + 1) b d 45 40 ml st t Q = vga ml 0 (fun v => vc xs zH_45 n true d 45 41 ml (.ref v :: st) t Q) := by
  rw [vc_q (o := (2, 0, 0, 0, [])) (by decide +kernel)]; rfl
theorem v_45_41 (xs : Option (List Int32)) (n : Nat) (b : Bool) (d : Nat) (ml : List Value) (t : T) (Q : Option Value → T → Prop) (st : List Value) : vc xs zH_45 (n + 1) b d 45 41 ml st t Q = vgi ml 1 (fun v => vc xs zH_45 n true d 45 42 ml (.int v :: st) t Q) := by
  rw [vc_q (o := (1, 0, 1, 0, [])) (by decide +kernel)]; rfl
theorem v_45_42 (xs : Option (List Int32)) (n : Nat) (b : Bool) (d : Nat) (ml : List Value) (t : T) (Q : Option Value → T → Prop) (st : List Value) : vc xs zH_45 (n + 1) b d 45 42 ml st t Q = vgi ml 4 (fun v => vc xs zH_45 n true d 45 44 ml (.int v :: st) t Q) := by
  rw [vc_q (o := (1, 0, 4, 1, [])) (by decide +kernel)]; rfl
theorem v_45_44 (xs : Option (List Int32)) (n : Nat) (b : Bool) (d : Nat) (ml : List Value) (t : T) (Q : Option Value → T → Prop) (st : List Value) : vc xs zH_45 (n + 1) b d 45 44 ml st t Q = (st.all zc1 = true ∧ vtk 3 st [] (fun as rest => rest.length ≤ 8 ∧ vrc as 12 (twc d 38 as t (fun r t' => vc xs zH_45 n true d 45 47 ml (r.toList ++ rest) t' Q)))) := by
  rw [vc_q (o := (36, 0, 38, 2, [(0, 12)])) (by decide +kernel)]; rfl
theorem v_45_47 (xs : Option (List Int32)) (n : Nat) (b : Bool) (d : Nat) (ml : List Value) (t : T) (Q : Option Value → T → Prop) (st : List Value) : vc xs zH_45 (n + 1) b d 45 47 ml st t Q = vga ml 0 (fun v => vc xs zH_45 n true d 45 48 ml (.ref v :: st) t Q) := by
  rw [vc_q (o := (2, 0, 0, 0, [])) (by decide +kernel)]; rfl
theorem v_45_48 (xs : Option (List Int32)) (n : Nat) (b : Bool) (d : Nat) (ml : List Value) (t : T) (Q : Option Value → T → Prop) (st : List Value) : vc xs zH_45 (n + 1) b d 45 48 ml st t Q = vgi ml 2 (fun v => vc xs zH_45 n true d 45 49 ml (.int v :: st) t Q) := by
  rw [vc_q (o := (1, 0, 2, 0, [])) (by decide +kernel)]; rfl
theorem v_45_49 (xs : Option (List Int32)) (n : Nat) (b : Bool) (d : Nat) (ml : List Value) (t : T) (Q : Option Value → T → Prop) (st : List Value) : vc xs zH_45 (n + 1) b d 45 49 ml st t Q = vgi ml 4 (fun v => vc xs zH_45 n true d 45 51 ml (.int v :: st) t Q) := by
  rw [vc_q (o := (1, 0, 4, 1, [])) (by decide +kernel)]; rfl
theorem v_45_51 (xs : Option (List Int32)) (n : Nat) (b : Bool) (d : Nat) (ml : List Value) (t : T) (Q : Option Value → T → Prop) (st : List Value) : vc xs zH_45 (n + 1) b d 45 51 ml st t Q = (st.all zc1 = true ∧ vtk 3 st [] (fun as rest => rest.length ≤ 8 ∧ vrc as 12 (twc d 38 as t (fun r t' => vc xs zH_45 n true d 45 54 ml (r.toList ++ rest) t' Q)))) := by
  rw [vc_q (o := (36, 0, 38, 2, [(0, 12)])) (by decide +kernel)]; rfl
theorem v_45_54 (xs : Option (List Int32)) (n : Nat) (b : Bool) (d : Nat) (ml : List Value) (t : T) (Q : Option Value → T → Prop) (u v : Int32) (r : List Value) : vc xs zH_45 (n + 1) b d 45 54 ml (.int v :: .int u :: r) t Q = (if u = v then vc xs zH_45 n true d 45 80 ml r t Q else vc xs zH_45 n true d 45 57 ml r t Q) := by
  rw [vc_q (o := (20, 0, 80, 0, [])) (by decide +kernel)]; rfl
theorem v_45_57 (xs : Option (List Int32)) (n : Nat) (b : Bool) (d : Nat) (ml : List Value) (t : T) (Q : Option Value → T → Prop) (st : List Value) : vc xs zH_45 (n + 1) b d 45 57 ml st t Q = vga ml 0 (fun v => vc xs zH_45 n true d 45 58 ml (.ref v :: st) t Q) := by
  rw [vc_q (o := (2, 0, 0, 0, [])) (by decide +kernel)]; rfl
theorem v_45_58 (xs : Option (List Int32)) (n : Nat) (b : Bool) (d : Nat) (ml : List Value) (t : T) (Q : Option Value → T → Prop) (st : List Value) : vc xs zH_45 (n + 1) b d 45 58 ml st t Q = vgi ml 1 (fun v => vc xs zH_45 n true d 45 59 ml (.int v :: st) t Q) := by
  rw [vc_q (o := (1, 0, 1, 0, [])) (by decide +kernel)]; rfl
theorem v_45_59 (xs : Option (List Int32)) (n : Nat) (b : Bool) (d : Nat) (ml : List Value) (t : T) (Q : Option Value → T → Prop) (st : List Value) : vc xs zH_45 (n + 1) b d 45 59 ml st t Q = vgi ml 4 (fun v => vc xs zH_45 n true d 45 61 ml (.int v :: st) t Q) := by
  rw [vc_q (o := (1, 0, 4, 1, [])) (by decide +kernel)]; rfl
theorem v_45_61 (xs : Option (List Int32)) (n : Nat) (b : Bool) (d : Nat) (ml : List Value) (t : T) (Q : Option Value → T → Prop) (st : List Value) : vc xs zH_45 (n + 1) b d 45 61 ml st t Q = (st.all zc1 = true ∧ vtk 3 st [] (fun as rest => rest.length ≤ 8 ∧ vrc as 12 (twc d 38 as t (fun r t' => vc xs zH_45 n true d 45 64 ml (r.toList ++ rest) t' Q)))) := by
  rw [vc_q (o := (36, 0, 38, 2, [(0, 12)])) (by decide +kernel)]; rfl
theorem v_45_64 (xs : Option (List Int32)) (n : Nat) (b : Bool) (d : Nat) (ml : List Value) (t : T) (Q : Option Value → T → Prop) (st : List Value) : vc xs zH_45 (n + 1) b d 45 64 ml st t Q = vga ml 0 (fun v => vc xs zH_45 n true d 45 65 ml (.ref v :: st) t Q) := by
  rw [vc_q (o := (2, 0, 0, 0, [])) (by decide +kernel)]; rfl
theorem v_45_65 (xs : Option (List Int32)) (n : Nat) (b : Bool) (d : Nat) (ml : List Value) (t : T) (Q : Option Value → T → Prop) (st : List Value) : vc xs zH_45 (n + 1) b d 45 65 ml st t Q = vgi ml 2 (fun v => vc xs zH_45 n true d 45 66 ml (.int v :: st) t Q) := by
  rw [vc_q (o := (1, 0, 2, 0, [])) (by decide +kernel)]; rfl
theorem v_45_66 (xs : Option (List Int32)) (n : Nat) (b : Bool) (d : Nat) (ml : List Value) (t : T) (Q : Option Value → T → Prop) (st : List Value) : vc xs zH_45 (n + 1) b d 45 66 ml st t Q = vgi ml 4 (fun v => vc xs zH_45 n true d 45 68 ml (.int v :: st) t Q) := by
  rw [vc_q (o := (1, 0, 4, 1, [])) (by decide +kernel)]; rfl
theorem v_45_68 (xs : Option (List Int32)) (n : Nat) (b : Bool) (d : Nat) (ml : List Value) (t : T) (Q : Option Value → T → Prop) (st : List Value) : vc xs zH_45 (n + 1) b d 45 68 ml st t Q = (st.all zc1 = true ∧ vtk 3 st [] (fun as rest => rest.length ≤ 8 ∧ vrc as 12 (twc d 38 as t (fun r t' => vc xs zH_45 n true d 45 71 ml (r.toList ++ rest) t' Q)))) := by
  rw [vc_q (o := (36, 0, 38, 2, [(0, 12)])) (by decide +kernel)]; rfl
theorem v_45_71 (xs : Option (List Int32)) (n : Nat) (b : Bool) (d : Nat) (ml : List Value) (t : T) (Q : Option Value → T → Prop) (u v : Int32) (r : List Value) : vc xs zH_45 (n + 1) b d 45 71 ml (.int v :: .int u :: r) t Q = (if u < v then vc xs zH_45 n true d 45 74 ml r t Q else vc xs zH_45 n true d 45 78 ml r t Q) := by
  rw [vc_q (o := (20, 0, 78, 3, [])) (by decide +kernel)]; rfl
theorem v_45_74 (xs : Option (List Int32)) (n : Nat) (b : Bool) (d : Nat) (ml : List Value) (t : T) (Q : Option Value → T → Prop) (st : List Value) : vc xs zH_45 (n + 1) b d 45 74 ml st t Q = vc xs zH_45 n true d 45 75 ml (.int (-1) :: st) t Q := by
  rw [vc_q (o := (0, (-1), 0, 0, [])) (by decide +kernel)]; rfl
theorem v_45_75 (xs : Option (List Int32)) (n : Nat) (b : Bool) (d : Nat) (ml : List Value) (t : T) (Q : Option Value → T → Prop) (st : List Value) : vc xs zH_45 (n + 1) b d 45 75 ml st t Q = vc xs zH_45 n true d 45 79 ml st t Q := by
  rw [vc_q (o := (22, 0, 79, 0, [])) (by decide +kernel)]; rfl
theorem v_45_78 (xs : Option (List Int32)) (n : Nat) (b : Bool) (d : Nat) (ml : List Value) (t : T) (Q : Option Value → T → Prop) (st : List Value) : vc xs zH_45 (n + 1) b d 45 78 ml st t Q = vc xs zH_45 n true d 45 79 ml (.int 1 :: st) t Q := by
  rw [vc_q (o := (0, 1, 0, 0, [])) (by decide +kernel)]; rfl
theorem v_45_79 (xs : Option (List Int32)) (n : Nat) (b : Bool) (d : Nat) (ml : List Value) (t : T) (Q : Option Value → T → Prop) (v : Int32) : vc xs zH_45 (n + 1) b d 45 79 ml [.int v] t Q = Q (some (.int v)) t := by
  rw [vc_q (o := (40, 0, 0, 0, [])) (by decide +kernel)]; rfl
theorem v_45_80 (xs : Option (List Int32)) (n : Nat) (b : Bool) (d : Nat) (ml : List Value) (t : T) (Q : Option Value → T → Prop) (st : List Value) : vc xs zH_45 (n + 1) b d 45 80 ml st t Q = vgi ml 4 (fun v => vset ml 4 (.int (v + 1)) (fun l => vc xs zH_45 n true d 45 83 l st t Q)) := by
  rw [vc_q (o := (5, 1, 4, 0, [])) (by decide +kernel)]; rfl
theorem v_45_83 (xs : Option (List Int32)) (n : Nat) (b : Bool) (d : Nat) (ml : List Value) (t : T) (Q : Option Value → T → Prop) (st : List Value) : vc xs zH_45 (n + 1) b d 45 83 ml st t Q = vc xs zH_45 n true d 45 33 ml st t Q := by
  rw [vc_q (o := (22, 0, 33, 0, [])) (by decide +kernel)]; rfl
theorem v_45_86 (xs : Option (List Int32)) (n : Nat) (b : Bool) (d : Nat) (ml : List Value) (t : T) (Q : Option Value → T → Prop) (st : List Value) : vc xs zH_45 (n + 1) b d 45 86 ml st t Q = vc xs zH_45 n true d 45 87 ml (.int 0 :: st) t Q := by
  rw [vc_q (o := (0, 0, 0, 0, [])) (by decide +kernel)]; rfl
theorem v_45_87 (xs : Option (List Int32)) (n : Nat) (b : Bool) (d : Nat) (ml : List Value) (t : T) (Q : Option Value → T → Prop) (v : Int32) : vc xs zH_45 (n + 1) b d 45 87 ml [.int v] t Q = Q (some (.int v)) t := by
  rw [vc_q (o := (40, 0, 0, 0, [])) (by decide +kernel)]; rfl
def zH_46 : List Nat := [2, 12]
theorem v_46_0 (xs : Option (List Int32)) (n : Nat) (b : Bool) (d : Nat) (ml : List Value) (t : T) (Q : Option Value → T → Prop) (st : List Value) : vc xs zH_46 (n + 1) b d 46 0 ml st t Q = vc xs zH_46 n true d 46 1 ml (.int 0 :: st) t Q := by
  rw [vc_q (o := (0, 0, 0, 0, [])) (by decide +kernel)]; rfl
theorem v_46_1 (xs : Option (List Int32)) (n : Nat) (b : Bool) (d : Nat) (ml : List Value) (t : T) (Q : Option Value → T → Prop) (v : Int32) (r : List Value) : vc xs zH_46 (n + 1) b d 46 1 ml (.int v :: r) t Q = vset ml 3 (.int v) (fun l => vc xs zH_46 n true d 46 2 l r t Q) := by
  rw [vc_q (o := (3, 0, 3, 0, [])) (by decide +kernel)]; rfl
theorem v_46_2 (xs : Option (List Int32)) (n : Nat) (d : Nat) (ml : List Value) (t : T) (Q : Option Value → T → Prop) (st : List Value) : vc xs zH_46 (n + 1) false d 46 2 ml st t Q = vgi ml 3 (fun v => vc xs zH_46 n true d 46 3 ml (.int v :: st) t Q) := by
  rw [vc_q (o := (1, 0, 3, 0, [])) (by decide +kernel)]; rfl
theorem h_46_2 (xs : Option (List Int32)) (n d : Nat) (ml st : List Value) (t : T) (Q : Option Value → T → Prop) : vc xs zH_46 (n + 1) true d 46 2 ml st t Q = twp xs d 46 2 ml st t Q := id rfl
theorem v_46_3 (xs : Option (List Int32)) (n : Nat) (b : Bool) (d : Nat) (ml : List Value) (t : T) (Q : Option Value → T → Prop) (st : List Value) : vc xs zH_46 (n + 1) b d 46 3 ml st t Q = vgi ml 2 (fun v => vc xs zH_46 n true d 46 4 ml (.int v :: st) t Q) := by
  rw [vc_q (o := (1, 0, 2, 0, [])) (by decide +kernel)]; rfl
theorem v_46_4 (xs : Option (List Int32)) (n : Nat) (b : Bool) (d : Nat) (ml : List Value) (t : T) (Q : Option Value → T → Prop) (u v : Int32) (r : List Value) : vc xs zH_46 (n + 1) b d 46 4 ml (.int v :: .int u :: r) t Q = (if u < v then vc xs zH_46 n true d 46 7 ml r t Q else vc xs zH_46 n true d 46 85 ml r t Q) := by
  rw [vc_q (o := (20, 0, 85, 3, [])) (by decide +kernel)]; rfl
theorem v_46_7 (xs : Option (List Int32)) (n : Nat) (b : Bool) (d : Nat) (ml : List Value) (t : T) (Q : Option Value → T → Prop) (st : List Value) : vc xs zH_46 (n + 1) b d 46 7 ml st t Q = vgi ml 2 (fun v => vc xs zH_46 n true d 46 8 ml (.int v :: st) t Q) := by
  rw [vc_q (o := (1, 0, 2, 0, [])) (by decide +kernel)]; rfl
theorem v_46_8 (xs : Option (List Int32)) (n : Nat) (b : Bool) (d : Nat) (ml : List Value) (t : T) (Q : Option Value → T → Prop) (st : List Value) : vc xs zH_46 (n + 1) b d 46 8 ml st t Q = vc xs zH_46 n true d 46 9 ml (.int 1 :: st) t Q := by
  rw [vc_q (o := (0, 1, 0, 0, [])) (by decide +kernel)]; rfl
theorem v_46_9 (xs : Option (List Int32)) (n : Nat) (b : Bool) (d : Nat) (ml : List Value) (t : T) (Q : Option Value → T → Prop) (u v : Int32) (r : List Value) : vc xs zH_46 (n + 1) b d 46 9 ml (.int v :: .int u :: r) t Q = vc xs zH_46 n true d 46 10 ml (.int (u - v) :: r) t Q := by
  rw [vc_q (o := (7, 0, 0, 0, [])) (by decide +kernel)]; rfl
theorem v_46_10 (xs : Option (List Int32)) (n : Nat) (b : Bool) (d : Nat) (ml : List Value) (t : T) (Q : Option Value → T → Prop) (v : Int32) (r : List Value) : vc xs zH_46 (n + 1) b d 46 10 ml (.int v :: r) t Q = vset ml 4 (.int v) (fun l => vc xs zH_46 n true d 46 12 l r t Q) := by
  rw [vc_q (o := (3, 0, 4, 1, [])) (by decide +kernel)]; rfl
theorem v_46_12 (xs : Option (List Int32)) (n : Nat) (d : Nat) (ml : List Value) (t : T) (Q : Option Value → T → Prop) (st : List Value) : vc xs zH_46 (n + 1) false d 46 12 ml st t Q = vgi ml 4 (fun v => vc xs zH_46 n true d 46 14 ml (.int v :: st) t Q) := by
  rw [vc_q (o := (1, 0, 4, 1, [])) (by decide +kernel)]; rfl
theorem h_46_12 (xs : Option (List Int32)) (n d : Nat) (ml st : List Value) (t : T) (Q : Option Value → T → Prop) : vc xs zH_46 (n + 1) true d 46 12 ml st t Q = twp xs d 46 12 ml st t Q := id rfl
theorem v_46_14 (xs : Option (List Int32)) (n : Nat) (b : Bool) (d : Nat) (ml : List Value) (t : T) (Q : Option Value → T → Prop) (st : List Value) : vc xs zH_46 (n + 1) b d 46 14 ml st t Q = vgi ml 3 (fun v => vc xs zH_46 n true d 46 15 ml (.int v :: st) t Q) := by
  rw [vc_q (o := (1, 0, 3, 0, [])) (by decide +kernel)]; rfl
theorem v_46_15 (xs : Option (List Int32)) (n : Nat) (b : Bool) (d : Nat) (ml : List Value) (t : T) (Q : Option Value → T → Prop) (u v : Int32) (r : List Value) : vc xs zH_46 (n + 1) b d 46 15 ml (.int v :: .int u :: r) t Q = (if v < u then vc xs zH_46 n true d 46 18 ml r t Q else vc xs zH_46 n true d 46 79 ml r t Q) := by
  rw [vc_q (o := (20, 0, 79, 5, [])) (by decide +kernel)]; rfl
theorem v_46_18 (xs : Option (List Int32)) (n : Nat) (b : Bool) (d : Nat) (ml : List Value) (t : T) (Q : Option Value → T → Prop) (st : List Value) : vc xs zH_46 (n + 1) b d 46 18 ml st t Q = vga ml 0 (fun v => vc xs zH_46 n true d 46 19 ml (.ref v :: st) t Q) := by
  rw [vc_q (o := (2, 0, 0, 0, [])) (by decide +kernel)]; rfl
theorem v_46_19 (xs : Option (List Int32)) (n : Nat) (b : Bool) (d : Nat) (ml : List Value) (t : T) (Q : Option Value → T → Prop) (st : List Value) : vc xs zH_46 (n + 1) b d 46 19 ml st t Q = vgi ml 1 (fun v => vc xs zH_46 n true d 46 20 ml (.int v :: st) t Q) := by
  rw [vc_q (o := (1, 0, 1, 0, [])) (by decide +kernel)]; rfl
theorem v_46_20 (xs : Option (List Int32)) (n : Nat) (b : Bool) (d : Nat) (ml : List Value) (t : T) (Q : Option Value → T → Prop) (st : List Value) : vc xs zH_46 (n + 1) b d 46 20 ml st t Q = vgi ml 4 (fun v => vc xs zH_46 n true d 46 22 ml (.int v :: st) t Q) := by
  rw [vc_q (o := (1, 0, 4, 1, [])) (by decide +kernel)]; rfl
theorem v_46_22 (xs : Option (List Int32)) (n : Nat) (b : Bool) (d : Nat) (ml : List Value) (t : T) (Q : Option Value → T → Prop) (u v : Int32) (r : List Value) : vc xs zH_46 (n + 1) b d 46 22 ml (.int v :: .int u :: r) t Q = vc xs zH_46 n true d 46 23 ml (.int (u + v) :: r) t Q := by
  rw [vc_q (o := (6, 0, 0, 0, [])) (by decide +kernel)]; rfl
theorem v_46_23 (xs : Option (List Int32)) (n : Nat) (b : Bool) (d : Nat) (ml : List Value) (t : T) (Q : Option Value → T → Prop) (st : List Value) : vc xs zH_46 (n + 1) b d 46 23 ml st t Q = vgi ml 1 (fun v => vc xs zH_46 n true d 46 24 ml (.int v :: st) t Q) := by
  rw [vc_q (o := (1, 0, 1, 0, [])) (by decide +kernel)]; rfl
theorem v_46_24 (xs : Option (List Int32)) (n : Nat) (b : Bool) (d : Nat) (ml : List Value) (t : T) (Q : Option Value → T → Prop) (st : List Value) : vc xs zH_46 (n + 1) b d 46 24 ml st t Q = vgi ml 4 (fun v => vc xs zH_46 n true d 46 26 ml (.int v :: st) t Q) := by
  rw [vc_q (o := (1, 0, 4, 1, [])) (by decide +kernel)]; rfl
theorem v_46_26 (xs : Option (List Int32)) (n : Nat) (b : Bool) (d : Nat) (ml : List Value) (t : T) (Q : Option Value → T → Prop) (u v : Int32) (r : List Value) : vc xs zH_46 (n + 1) b d 46 26 ml (.int v :: .int u :: r) t Q = vc xs zH_46 n true d 46 27 ml (.int (u + v) :: r) t Q := by
  rw [vc_q (o := (6, 0, 0, 0, [])) (by decide +kernel)]; rfl
theorem v_46_27 (xs : Option (List Int32)) (n : Nat) (b : Bool) (d : Nat) (ml : List Value) (t : T) (Q : Option Value → T → Prop) (st : List Value) : vc xs zH_46 (n + 1) b d 46 27 ml st t Q = vc xs zH_46 n true d 46 28 ml (.int 1 :: st) t Q := by
  rw [vc_q (o := (0, 1, 0, 0, [])) (by decide +kernel)]; rfl
theorem v_46_28 (xs : Option (List Int32)) (n : Nat) (b : Bool) (d : Nat) (ml : List Value) (t : T) (Q : Option Value → T → Prop) (u v : Int32) (r : List Value) : vc xs zH_46 (n + 1) b d 46 28 ml (.int v :: .int u :: r) t Q = vc xs zH_46 n true d 46 29 ml (.int (u - v) :: r) t Q := by
  rw [vc_q (o := (7, 0, 0, 0, [])) (by decide +kernel)]; rfl
theorem v_46_29 (xs : Option (List Int32)) (n : Nat) (b : Bool) (d : Nat) (ml : List Value) (t : T) (Q : Option Value → T → Prop) (st : List Value) : vc xs zH_46 (n + 1) b d 46 29 ml st t Q = (st.all zc1 = true ∧ vtk 3 st [] (fun as rest => rest.length ≤ 8 ∧ vrc as 12 (twc d 45 as t (fun r t' => vc xs zH_46 n true d 46 32 ml (r.toList ++ rest) t' Q)))) := by
  rw [vc_q (o := (36, 0, 45, 2, [(0, 12)])) (by decide +kernel)]; rfl
theorem v_46_32 (xs : Option (List Int32)) (n : Nat) (b : Bool) (d : Nat) (ml : List Value) (t : T) (Q : Option Value → T → Prop) (u : Int32) (r : List Value) : vc xs zH_46 (n + 1) b d 46 32 ml (.int u :: r) t Q = (if u < 0 then vc xs zH_46 n true d 46 35 ml r t Q else vc xs zH_46 n true d 46 73 ml r t Q) := by
  rw [vc_q (o := (21, 0, 73, 3, [])) (by decide +kernel)]; rfl
theorem v_46_35 (xs : Option (List Int32)) (n : Nat) (b : Bool) (d : Nat) (ml : List Value) (t : T) (Q : Option Value → T → Prop) (st : List Value) : vc xs zH_46 (n + 1) b d 46 35 ml st t Q = vga ml 0 (fun v => vc xs zH_46 n true d 46 36 ml (.ref v :: st) t Q) := by
  rw [vc_q (o := (2, 0, 0, 0, [])) (by decide +kernel)]; rfl
theorem v_46_36 (xs : Option (List Int32)) (n : Nat) (b : Bool) (d : Nat) (ml : List Value) (t : T) (Q : Option Value → T → Prop) (st : List Value) : vc xs zH_46 (n + 1) b d 46 36 ml st t Q = vgi ml 1 (fun v => vc xs zH_46 n true d 46 37 ml (.int v :: st) t Q) := by
  rw [vc_q (o := (1, 0, 1, 0, [])) (by decide +kernel)]; rfl
theorem v_46_37 (xs : Option (List Int32)) (n : Nat) (b : Bool) (d : Nat) (ml : List Value) (t : T) (Q : Option Value → T → Prop) (st : List Value) : vc xs zH_46 (n + 1) b d 46 37 ml st t Q = vgi ml 4 (fun v => vc xs zH_46 n true d 46 39 ml (.int v :: st) t Q) := by
  rw [vc_q (o := (1, 0, 4, 1, [])) (by decide +kernel)]; rfl
theorem v_46_39 (xs : Option (List Int32)) (n : Nat) (b : Bool) (d : Nat) (ml : List Value) (t : T) (Q : Option Value → T → Prop) (u v : Int32) (r : List Value) : vc xs zH_46 (n + 1) b d 46 39 ml (.int v :: .int u :: r) t Q = vc xs zH_46 n true d 46 40 ml (.int (u + v) :: r) t Q := by
  rw [vc_q (o := (6, 0, 0, 0, [])) (by decide +kernel)]; rfl
theorem v_46_40 (xs : Option (List Int32)) (n : Nat) (b : Bool) (d : Nat) (ml : List Value) (t : T) (Q : Option Value → T → Prop) (st : List Value) : vc xs zH_46 (n + 1) b d 46 40 ml st t Q = vc xs zH_46 n true d 46 43 ml (.int 183 :: st) t Q := by
  rw [vc_q (o := (0, 183, 2, 0, [])) (by decide +kernel)]; rfl
theorem v_46_43 (xs : Option (List Int32)) (n : Nat) (b : Bool) (d : Nat) (ml : List Value) (t : T) (Q : Option Value → T → Prop) (st : List Value) : vc xs zH_46 (n + 1) b d 46 43 ml st t Q = (st.all zc1 = true ∧ vtk 3 st [] (fun as rest => rest.length ≤ 8 ∧ vrc as 12 (twc d 44 as t (fun r t' => vc xs zH_46 n true d 46 46 ml (r.toList ++ rest) t' Q)))) := by
  rw [vc_q (o := (36, 0, 44, 2, [(0, 12)])) (by decide +kernel)]; rfl
theorem v_46_46 (xs : Option (List Int32)) (n : Nat) (b : Bool) (d : Nat) (ml : List Value) (t : T) (Q : Option Value → T → Prop) (st : List Value) : vc xs zH_46 (n + 1) b d 46 46 ml st t Q = vga ml 0 (fun v => vc xs zH_46 n true d 46 47 ml (.ref v :: st) t Q) := by
  rw [vc_q (o := (2, 0, 0, 0, [])) (by decide +kernel)]; rfl
theorem v_46_47 (xs : Option (List Int32)) (n : Nat) (b : Bool) (d : Nat) (ml : List Value) (t : T) (Q : Option Value → T → Prop) (st : List Value) : vc xs zH_46 (n + 1) b d 46 47 ml st t Q = vgi ml 1 (fun v => vc xs zH_46 n true d 46 48 ml (.int v :: st) t Q) := by
  rw [vc_q (o := (1, 0, 1, 0, [])) (by decide +kernel)]; rfl
theorem v_46_48 (xs : Option (List Int32)) (n : Nat) (b : Bool) (d : Nat) (ml : List Value) (t : T) (Q : Option Value → T → Prop) (st : List Value) : vc xs zH_46 (n + 1) b d 46 48 ml st t Q = vgi ml 4 (fun v => vc xs zH_46 n true d 46 50 ml (.int v :: st) t Q) := by
  rw [vc_q (o := (1, 0, 4, 1, [])) (by decide +kernel)]; rfl
theorem v_46_50 (xs : Option (List Int32)) (n : Nat) (b : Bool) (d : Nat) (ml : List Value) (t : T) (Q : Option Value → T → Prop) (u v : Int32) (r : List Value) : vc xs zH_46 (n + 1) b d 46 50 ml (.int v :: .int u :: r) t Q = vc xs zH_46 n true d 46 51 ml (.int (u + v) :: r) t Q := by
  rw [vc_q (o := (6, 0, 0, 0, [])) (by decide +kernel)]; rfl
theorem v_46_51 (xs : Option (List Int32)) (n : Nat) (b : Bool) (d : Nat) (ml : List Value) (t : T) (Q : Option Value → T → Prop) (st : List Value) : vc xs zH_46 (n + 1) b d 46 51 ml st t Q = vc xs zH_46 n true d 46 52 ml (.int 1 :: st) t Q := by
  rw [vc_q (o := (0, 1, 0, 0, [])) (by decide +kernel)]; rfl
theorem v_46_52 (xs : Option (List Int32)) (n : Nat) (b : Bool) (d : Nat) (ml : List Value) (t : T) (Q : Option Value → T → Prop) (u v : Int32) (r : List Value) : vc xs zH_46 (n + 1) b d 46 52 ml (.int v :: .int u :: r) t Q = vc xs zH_46 n true d 46 53 ml (.int (u - v) :: r) t Q := by
  rw [vc_q (o := (7, 0, 0, 0, [])) (by decide +kernel)]; rfl
theorem v_46_53 (xs : Option (List Int32)) (n : Nat) (b : Bool) (d : Nat) (ml : List Value) (t : T) (Q : Option Value → T → Prop) (st : List Value) : vc xs zH_46 (n + 1) b d 46 53 ml st t Q = vgi ml 1 (fun v => vc xs zH_46 n true d 46 54 ml (.int v :: st) t Q) := by
  rw [vc_q (o := (1, 0, 1, 0, [])) (by decide +kernel)]; rfl
theorem v_46_54 (xs : Option (List Int32)) (n : Nat) (b : Bool) (d : Nat) (ml : List Value) (t : T) (Q : Option Value → T → Prop) (st : List Value) : vc xs zH_46 (n + 1) b d 46 54 ml st t Q = vgi ml 4 (fun v => vc xs zH_46 n true d 46 56 ml (.int v :: st) t Q) := by
  rw [vc_q (o := (1, 0, 4, 1, [])) (by decide +kernel)]; rfl
theorem v_46_56 (xs : Option (List Int32)) (n : Nat) (b : Bool) (d : Nat) (ml : List Value) (t : T) (Q : Option Value → T → Prop) (u v : Int32) (r : List Value) : vc xs zH_46 (n + 1) b d 46 56 ml (.int v :: .int u :: r) t Q = vc xs zH_46 n true d 46 57 ml (.int (u + v) :: r) t Q := by
  rw [vc_q (o := (6, 0, 0, 0, [])) (by decide +kernel)]; rfl
theorem v_46_57 (xs : Option (List Int32)) (n : Nat) (b : Bool) (d : Nat) (ml : List Value) (t : T) (Q : Option Value → T → Prop) (st : List Value) : vc xs zH_46 (n + 1) b d 46 57 ml st t Q = (st.all zc1 = true ∧ vtk 3 st [] (fun as rest => rest.length ≤ 8 ∧ vrc as 12 (twc d 44 as t (fun r t' => vc xs zH_46 n true d 46 60 ml (r.toList ++ rest) t' Q)))) := by
  rw [vc_q (o := (36, 0, 44, 2, [(0, 12)])) (by decide +kernel)]; rfl
theorem v_46_60 (xs : Option (List Int32)) (n : Nat) (b : Bool) (d : Nat) (ml : List Value) (t : T) (Q : Option Value → T → Prop) (st : List Value) : vc xs zH_46 (n + 1) b d 46 60 ml st t Q = vga ml 0 (fun v => vc xs zH_46 n true d 46 61 ml (.ref v :: st) t Q) := by
  rw [vc_q (o := (2, 0, 0, 0, [])) (by decide +kernel)]; rfl
theorem v_46_61 (xs : Option (List Int32)) (n : Nat) (b : Bool) (d : Nat) (ml : List Value) (t : T) (Q : Option Value → T → Prop) (st : List Value) : vc xs zH_46 (n + 1) b d 46 61 ml st t Q = vc xs zH_46 n true d 46 64 ml (.int 183 :: st) t Q := by
  rw [vc_q (o := (0, 183, 2, 0, [])) (by decide +kernel)]; rfl
theorem v_46_64 (xs : Option (List Int32)) (n : Nat) (b : Bool) (d : Nat) (ml : List Value) (t : T) (Q : Option Value → T → Prop) (st : List Value) : vc xs zH_46 (n + 1) b d 46 64 ml st t Q = vgi ml 1 (fun v => vc xs zH_46 n true d 46 65 ml (.int v :: st) t Q) := by
  rw [vc_q (o := (1, 0, 1, 0, [])) (by decide +kernel)]; rfl
theorem v_46_65 (xs : Option (List Int32)) (n : Nat) (b : Bool) (d : Nat) (ml : List Value) (t : T) (Q : Option Value → T → Prop) (st : List Value) : vc xs zH_46 (n + 1) b d 46 65 ml st t Q = vgi ml 4 (fun v => vc xs zH_46 n true d 46 67 ml (.int v :: st) t Q) := by
  rw [vc_q (o := (1, 0, 4, 1, [])) (by decide +kernel)]; rfl
theorem v_46_67 (xs : Option (List Int32)) (n : Nat) (b : Bool) (d : Nat) (ml : List Value) (t : T) (Q : Option Value → T → Prop) (u v : Int32) (r : List Value) : vc xs zH_46 (n + 1) b d 46 67 ml (.int v :: .int u :: r) t Q = vc xs zH_46 n true d 46 68 ml (.int (u + v) :: r) t Q := by
  rw [vc_q (o := (6, 0, 0, 0, [])) (by decide +kernel)]; rfl
theorem v_46_68 (xs : Option (List Int32)) (n : Nat) (b : Bool) (d : Nat) (ml : List Value) (t : T) (Q : Option Value → T → Prop) (st : List Value) : vc xs zH_46 (n + 1) b d 46 68 ml st t Q = vc xs zH_46 n true d 46 69 ml (.int 1 :: st) t Q := by
  rw [vc_q (o := (0, 1, 0, 0, [])) (by decide +kernel)]; rfl
theorem v_46_69 (xs : Option (List Int32)) (n : Nat) (b : Bool) (d : Nat) (ml : List Value) (t : T) (Q : Option Value → T → Prop) (u v : Int32) (r : List Value) : vc xs zH_46 (n + 1) b d 46 69 ml (.int v :: .int u :: r) t Q = vc xs zH_46 n true d 46 70 ml (.int (u - v) :: r) t Q := by
  rw [vc_q (o := (7, 0, 0, 0, [])) (by decide +kernel)]; rfl
theorem v_46_70 (xs : Option (List Int32)) (n : Nat) (b : Bool) (d : Nat) (ml : List Value) (t : T) (Q : Option Value → T → Prop) (st : List Value) : vc xs zH_46 (n + 1) b d 46 70 ml st t Q = (st.all zc1 = true ∧ vtk 3 st [] (fun as rest => rest.length ≤ 8 ∧ vrc as 12 (twc d 44 as t (fun r t' => vc xs zH_46 n true d 46 73 ml (r.toList ++ rest) t' Q)))) := by
  rw [vc_q (o := (36, 0, 44, 2, [(0, 12)])) (by decide +kernel)]; rfl
theorem v_46_73 (xs : Option (List Int32)) (n : Nat) (b : Bool) (d : Nat) (ml : List Value) (t : T) (Q : Option Value → T → Prop) (st : List Value) : vc xs zH_46 (n + 1) b d 46 73 ml st t Q = vgi ml 4 (fun v => vset ml 4 (.int (v + (-1))) (fun l => vc xs zH_46 n true d 46 76 l st t Q)) := by
  rw [vc_q (o := (5, (-1), 4, 0, [])) (by decide +kernel)]; rfl
theorem v_46_76 (xs : Option (List Int32)) (n : Nat) (b : Bool) (d : Nat) (ml : List Value) (t : T) (Q : Option Value → T → Prop) (st : List Value) : vc xs zH_46 (n + 1) b d 46 76 ml st t Q = vc xs zH_46 n true d 46 12 ml st t Q := by
  rw [vc_q (o := (22, 0, 12, 0, [])) (by decide +kernel)]; rfl
theorem v_46_79 (xs : Option (List Int32)) (n : Nat) (b : Bool) (d : Nat) (ml : List Value) (t : T) (Q : Option Value → T → Prop) (st : List Value) : vc xs zH_46 (n + 1) b d 46 79 ml st t Q = vgi ml 3 (fun v => vset ml 3 (.int (v + 1)) (fun l => vc xs zH_46 n true d 46 82 l st t Q)) := by
  rw [vc_q (o := (5, 1, 3, 0, [])) (by decide +kernel)]; rfl
theorem v_46_82 (xs : Option (List Int32)) (n : Nat) (b : Bool) (d : Nat) (ml : List Value) (t : T) (Q : Option Value → T → Prop) (st : List Value) : vc xs zH_46 (n + 1) b d 46 82 ml st t Q = vc xs zH_46 n true d 46 2 ml st t Q := by
  rw [vc_q (o := (22, 0, 2, 0, [])) (by decide +kernel)]; rfl
theorem v_46_85 (xs : Option (List Int32)) (n : Nat) (b : Bool) (d : Nat) (ml : List Value) (t : T) (Q : Option Value → T → Prop)  : vc xs zH_46 (n + 1) b d 46 85 ml [] t Q = Q none t := by
  rw [vc_q (o := (43, 0, 0, 0, [])) (by decide +kernel)]; rfl
def zH_47 : List Nat := []
theorem v_47_0 (xs : Option (List Int32)) (n : Nat) (b : Bool) (d : Nat) (ml : List Value) (t : T) (Q : Option Value → T → Prop) (st : List Value) : vc xs zH_47 (n + 1) b d 47 0 ml st t Q = vgi ml 0 (fun v => vc xs zH_47 n true d 47 1 ml (.int v :: st) t Q) := by
  rw [vc_q (o := (1, 0, 0, 0, [])) (by decide +kernel)]; rfl
theorem v_47_1 (xs : Option (List Int32)) (n : Nat) (b : Bool) (d : Nat) (ml : List Value) (t : T) (Q : Option Value → T → Prop) (u : Int32) (r : List Value) : vc xs zH_47 (n + 1) b d 47 1 ml (.int u :: r) t Q = (if u < 0 then vc xs zH_47 n true d 47 13 ml r t Q else vc xs zH_47 n true d 47 4 ml r t Q) := by
  rw [vc_q (o := (21, 0, 13, 2, [])) (by decide +kernel)]; rfl
theorem v_47_4 (xs : Option (List Int32)) (n : Nat) (b : Bool) (d : Nat) (ml : List Value) (t : T) (Q : Option Value → T → Prop) (st : List Value) : vc xs zH_47 (n + 1) b d 47 4 ml st t Q = vgi ml 0 (fun v => vc xs zH_47 n true d 47 5 ml (.int v :: st) t Q) := by
  rw [vc_q (o := (1, 0, 0, 0, [])) (by decide +kernel)]; rfl
theorem v_47_5 (xs : Option (List Int32)) (n : Nat) (b : Bool) (d : Nat) (ml : List Value) (t : T) (Q : Option Value → T → Prop) (st : List Value) : vc xs zH_47 (n + 1) b d 47 5 ml st t Q = vc xs zH_47 n true d 47 6 ml (.int 4 :: st) t Q := by
  rw [vc_q (o := (0, 4, 0, 0, [])) (by decide +kernel)]; rfl
theorem v_47_6 (xs : Option (List Int32)) (n : Nat) (b : Bool) (d : Nat) (ml : List Value) (t : T) (Q : Option Value → T → Prop) (u v : Int32) (r : List Value) : vc xs zH_47 (n + 1) b d 47 6 ml (.int v :: .int u :: r) t Q = (if u < v then vc xs zH_47 n true d 47 9 ml r t Q else vc xs zH_47 n true d 47 13 ml r t Q) := by
  rw [vc_q (o := (20, 0, 13, 3, [])) (by decide +kernel)]; rfl
theorem v_47_9 (xs : Option (List Int32)) (n : Nat) (b : Bool) (d : Nat) (ml : List Value) (t : T) (Q : Option Value → T → Prop) (st : List Value) : vc xs zH_47 (n + 1) b d 47 9 ml st t Q = vc xs zH_47 n true d 47 10 ml (.int 1 :: st) t Q := by
  rw [vc_q (o := (0, 1, 0, 0, [])) (by decide +kernel)]; rfl
theorem v_47_10 (xs : Option (List Int32)) (n : Nat) (b : Bool) (d : Nat) (ml : List Value) (t : T) (Q : Option Value → T → Prop) (st : List Value) : vc xs zH_47 (n + 1) b d 47 10 ml st t Q = vc xs zH_47 n true d 47 14 ml st t Q := by
  rw [vc_q (o := (22, 0, 14, 0, [])) (by decide +kernel)]; rfl
theorem v_47_13 (xs : Option (List Int32)) (n : Nat) (b : Bool) (d : Nat) (ml : List Value) (t : T) (Q : Option Value → T → Prop) (st : List Value) : vc xs zH_47 (n + 1) b d 47 13 ml st t Q = vc xs zH_47 n true d 47 14 ml (.int 0 :: st) t Q := by
  rw [vc_q (o := (0, 0, 0, 0, [])) (by decide +kernel)]; rfl
theorem v_47_14 (xs : Option (List Int32)) (n : Nat) (b : Bool) (d : Nat) (ml : List Value) (t : T) (Q : Option Value → T → Prop) (v : Int32) : vc xs zH_47 (n + 1) b d 47 14 ml [.int v] t Q = ((v = 0 ∨ v = 1) ∧ Q (some (.int v)) t) := by
  rw [vc_q (o := (41, 0, 0, 0, [])) (by decide +kernel)]; rfl
def zH_48 : List Nat := []
theorem v_48_0 (xs : Option (List Int32)) (n : Nat) (b : Bool) (d : Nat) (ml : List Value) (t : T) (Q : Option Value → T → Prop) (st : List Value) : vc xs zH_48 (n + 1) b d 48 0 ml st t Q = vgi ml 2 (fun v => vc xs zH_48 n true d 48 1 ml (.int v :: st) t Q) := by
  rw [vc_q (o := (1, 0, 2, 0, [])) (by decide +kernel)]; rfl
theorem v_48_1 (xs : Option (List Int32)) (n : Nat) (b : Bool) (d : Nat) (ml : List Value) (t : T) (Q : Option Value → T → Prop) (u : Int32) (r : List Value) : vc xs zH_48 (n + 1) b d 48 1 ml (.int u :: r) t Q = (if u < 0 then vc xs zH_48 n true d 48 17 ml r t Q else vc xs zH_48 n true d 48 4 ml r t Q) := by
  rw [vc_q (o := (21, 0, 17, 2, [])) (by decide +kernel)]; rfl
theorem v_48_4 (xs : Option (List Int32)) (n : Nat) (b : Bool) (d : Nat) (ml : List Value) (t : T) (Q : Option Value → T → Prop) (st : List Value) : vc xs zH_48 (n + 1) b d 48 4 ml st t Q = vgi ml 2 (fun v => vc xs zH_48 n true d 48 5 ml (.int v :: st) t Q) := by
  rw [vc_q (o := (1, 0, 2, 0, [])) (by decide +kernel)]; rfl
theorem v_48_5 (xs : Option (List Int32)) (n : Nat) (b : Bool) (d : Nat) (ml : List Value) (t : T) (Q : Option Value → T → Prop) (st : List Value) : vc xs zH_48 (n + 1) b d 48 5 ml st t Q = vga ml 0 (fun v => vc xs zH_48 n true d 48 6 ml (.ref v :: st) t Q) := by
  rw [vc_q (o := (2, 0, 0, 0, [])) (by decide +kernel)]; rfl
theorem v_48_6 (xs : Option (List Int32)) (n : Nat) (b : Bool) (d : Nat) (ml : List Value) (t : T) (Q : Option Value → T → Prop) (st : List Value) : vc xs zH_48 (n + 1) b d 48 6 ml st t Q = vgi ml 1 (fun v => vc xs zH_48 n true d 48 7 ml (.int v :: st) t Q) := by
  rw [vc_q (o := (1, 0, 1, 0, [])) (by decide +kernel)]; rfl
theorem v_48_7 (xs : Option (List Int32)) (n : Nat) (b : Bool) (d : Nat) (ml : List Value) (t : T) (Q : Option Value → T → Prop) (st : List Value) : vc xs zH_48 (n + 1) b d 48 7 ml st t Q = (st.all zc1 = true ∧ vtk 2 st [] (fun as rest => rest.length ≤ 8 ∧ vrc as 12 (twc d 40 as t (fun r t' => vc xs zH_48 n true d 48 10 ml (r.toList ++ rest) t' Q)))) := by
  rw [vc_q (o := (36, 0, 40, 1, [(0, 12)])) (by decide +kernel)]; rfl
theorem v_48_10 (xs : Option (List Int32)) (n : Nat) (b : Bool) (d : Nat) (ml : List Value) (t : T) (Q : Option Value → T → Prop) (u v : Int32) (r : List Value) : vc xs zH_48 (n + 1) b d 48 10 ml (.int v :: .int u :: r) t Q = (if u < v then vc xs zH_48 n true d 48 13 ml r t Q else vc xs zH_48 n true d 48 17 ml r t Q) := by
  rw [vc_q (o := (20, 0, 17, 3, [])) (by decide +kernel)]; rfl
theorem v_48_13 (xs : Option (List Int32)) (n : Nat) (b : Bool) (d : Nat) (ml : List Value) (t : T) (Q : Option Value → T → Prop) (st : List Value) : vc xs zH_48 (n + 1) b d 48 13 ml st t Q = vc xs zH_48 n true d 48 14 ml (.int 1 :: st) t Q := by
  rw [vc_q (o := (0, 1, 0, 0, [])) (by decide +kernel)]; rfl
theorem v_48_14 (xs : Option (List Int32)) (n : Nat) (b : Bool) (d : Nat) (ml : List Value) (t : T) (Q : Option Value → T → Prop) (st : List Value) : vc xs zH_48 (n + 1) b d 48 14 ml st t Q = vc xs zH_48 n true d 48 18 ml st t Q := by
  rw [vc_q (o := (22, 0, 18, 0, [])) (by decide +kernel)]; rfl
theorem v_48_17 (xs : Option (List Int32)) (n : Nat) (b : Bool) (d : Nat) (ml : List Value) (t : T) (Q : Option Value → T → Prop) (st : List Value) : vc xs zH_48 (n + 1) b d 48 17 ml st t Q = vc xs zH_48 n true d 48 18 ml (.int 0 :: st) t Q := by
  rw [vc_q (o := (0, 0, 0, 0, [])) (by decide +kernel)]; rfl
theorem v_48_18 (xs : Option (List Int32)) (n : Nat) (b : Bool) (d : Nat) (ml : List Value) (t : T) (Q : Option Value → T → Prop) (v : Int32) : vc xs zH_48 (n + 1) b d 48 18 ml [.int v] t Q = ((v = 0 ∨ v = 1) ∧ Q (some (.int v)) t) := by
  rw [vc_q (o := (41, 0, 0, 0, [])) (by decide +kernel)]; rfl
def zH_49 : List Nat := [21]
theorem v_49_0 (xs : Option (List Int32)) (n : Nat) (b : Bool) (d : Nat) (ml : List Value) (t : T) (Q : Option Value → T → Prop) (st : List Value) : vc xs zH_49 (n + 1) b d 49 0 ml st t Q = vgi ml 1 (fun v => vc xs zH_49 n true d 49 1 ml (.int v :: st) t Q) := by
  rw [vc_q (o := (1, 0, 1, 0, [])) (by decide +kernel)]; rfl
theorem v_49_1 (xs : Option (List Int32)) (n : Nat) (b : Bool) (d : Nat) (ml : List Value) (t : T) (Q : Option Value → T → Prop) (st : List Value) : vc xs zH_49 (n + 1) b d 49 1 ml st t Q = (st.all zc1 = true ∧ vtk 1 st [] (fun as rest => rest.length ≤ 8 ∧ twc d 47 as t (fun r t' => vc xs zH_49 n true d 49 4 ml (r.toList ++ rest) t' Q))) := by
  rw [vc_q (o := (37, 0, 47, 1, [])) (by decide +kernel)]; rfl
theorem v_49_4 (xs : Option (List Int32)) (n : Nat) (b : Bool) (d : Nat) (ml : List Value) (t : T) (Q : Option Value → T → Prop) (u : Int32) (r : List Value) : vc xs zH_49 (n + 1) b d 49 4 ml (.int u :: r) t Q = (if u = 0 then vc xs zH_49 n true d 49 17 ml r t Q else vc xs zH_49 n true d 49 7 ml r t Q) := by
  rw [vc_q (o := (21, 0, 17, 0, [])) (by decide +kernel)]; rfl
theorem v_49_7 (xs : Option (List Int32)) (n : Nat) (b : Bool) (d : Nat) (ml : List Value) (t : T) (Q : Option Value → T → Prop) (st : List Value) : vc xs zH_49 (n + 1) b d 49 7 ml st t Q = vgi ml 2 (fun v => vc xs zH_49 n true d 49 8 ml (.int v :: st) t Q) := by
  rw [vc_q (o := (1, 0, 2, 0, [])) (by decide +kernel)]; rfl
theorem v_49_8 (xs : Option (List Int32)) (n : Nat) (b : Bool) (d : Nat) (ml : List Value) (t : T) (Q : Option Value → T → Prop) (st : List Value) : vc xs zH_49 (n + 1) b d 49 8 ml st t Q = vc xs zH_49 n true d 49 9 ml (.int 0 :: st) t Q := by
  rw [vc_q (o := (0, 0, 0, 0, [])) (by decide +kernel)]; rfl
theorem v_49_9 (xs : Option (List Int32)) (n : Nat) (b : Bool) (d : Nat) (ml : List Value) (t : T) (Q : Option Value → T → Prop) (st : List Value) : vc xs zH_49 (n + 1) b d 49 9 ml st t Q = vc xs zH_49 n true d 49 11 ml (.int 6 :: st) t Q := by
  rw [vc_q (o := (0, 6, 1, 0, [])) (by decide +kernel)]; rfl
theorem v_49_11 (xs : Option (List Int32)) (n : Nat) (b : Bool) (d : Nat) (ml : List Value) (t : T) (Q : Option Value → T → Prop) (st : List Value) : vc xs zH_49 (n + 1) b d 49 11 ml st t Q = (st.all zc1 = true ∧ vtk 3 st [] (fun as rest => rest.length ≤ 8 ∧ twc d 37 as t (fun r t' => vc xs zH_49 n true d 49 14 ml (r.toList ++ rest) t' Q))) := by
  rw [vc_q (o := (37, 0, 37, 3, [])) (by decide +kernel)]; rfl
theorem v_49_14 (xs : Option (List Int32)) (n : Nat) (b : Bool) (d : Nat) (ml : List Value) (t : T) (Q : Option Value → T → Prop) (u : Int32) (r : List Value) : vc xs zH_49 (n + 1) b d 49 14 ml (.int u :: r) t Q = (if u = 0 then vc xs zH_49 n true d 49 19 ml r t Q else vc xs zH_49 n true d 49 17 ml r t Q) := by
  rw [vc_q (o := (21, 0, 19, 0, [])) (by decide +kernel)]; rfl
theorem v_49_17 (xs : Option (List Int32)) (n : Nat) (b : Bool) (d : Nat) (ml : List Value) (t : T) (Q : Option Value → T → Prop) (st : List Value) : vc xs zH_49 (n + 1) b d 49 17 ml st t Q = vc xs zH_49 n true d 49 18 ml (.int 0 :: st) t Q := by
  rw [vc_q (o := (0, 0, 0, 0, [])) (by decide +kernel)]; rfl
theorem v_49_18 (xs : Option (List Int32)) (n : Nat) (b : Bool) (d : Nat) (ml : List Value) (t : T) (Q : Option Value → T → Prop) (v : Int32) : vc xs zH_49 (n + 1) b d 49 18 ml [.int v] t Q = ((v = 0 ∨ v = 1) ∧ Q (some (.int v)) t) := by
  rw [vc_q (o := (41, 0, 0, 0, [])) (by decide +kernel)]; rfl
theorem v_49_19 (xs : Option (List Int32)) (n : Nat) (b : Bool) (d : Nat) (ml : List Value) (t : T) (Q : Option Value → T → Prop) (st : List Value) : vc xs zH_49 (n + 1) b d 49 19 ml st t Q = vc xs zH_49 n true d 49 20 ml (.int 3 :: st) t Q := by
  rw [vc_q (o := (0, 3, 0, 0, [])) (by decide +kernel)]; rfl
theorem v_49_20 (xs : Option (List Int32)) (n : Nat) (b : Bool) (d : Nat) (ml : List Value) (t : T) (Q : Option Value → T → Prop) (v : Int32) (r : List Value) : vc xs zH_49 (n + 1) b d 49 20 ml (.int v :: r) t Q = vset ml 3 (.int v) (fun l => vc xs zH_49 n true d 49 21 l r t Q) := by
  rw [vc_q (o := (3, 0, 3, 0, [])) (by decide +kernel)]; rfl
theorem v_49_21 (xs : Option (List Int32)) (n : Nat) (d : Nat) (ml : List Value) (t : T) (Q : Option Value → T → Prop) (st : List Value) : vc xs zH_49 (n + 1) false d 49 21 ml st t Q = vgi ml 3 (fun v => vc xs zH_49 n true d 49 22 ml (.int v :: st) t Q) := by
  rw [vc_q (o := (1, 0, 3, 0, [])) (by decide +kernel)]; rfl
theorem h_49_21 (xs : Option (List Int32)) (n d : Nat) (ml st : List Value) (t : T) (Q : Option Value → T → Prop) : vc xs zH_49 (n + 1) true d 49 21 ml st t Q = twp xs d 49 21 ml st t Q := id rfl
theorem v_49_22 (xs : Option (List Int32)) (n : Nat) (b : Bool) (d : Nat) (ml : List Value) (t : T) (Q : Option Value → T → Prop) (st : List Value) : vc xs zH_49 (n + 1) b d 49 22 ml st t Q = vc xs zH_49 n true d 49 24 ml (.int 105 :: st) t Q := by
  rw [vc_q (o := (0, 105, 1, 0, [])) (by decide +kernel)]; rfl
theorem v_49_24 (xs : Option (List Int32)) (n : Nat) (b : Bool) (d : Nat) (ml : List Value) (t : T) (Q : Option Value → T → Prop) (u v : Int32) (r : List Value) : vc xs zH_49 (n + 1) b d 49 24 ml (.int v :: .int u :: r) t Q = (if u < v then vc xs zH_49 n true d 49 27 ml r t Q else vc xs zH_49 n true d 49 40 ml r t Q) := by
  rw [vc_q (o := (20, 0, 40, 3, [])) (by decide +kernel)]; rfl
theorem v_49_27 (xs : Option (List Int32)) (n : Nat) (b : Bool) (d : Nat) (ml : List Value) (t : T) (Q : Option Value → T → Prop) (st : List Value) : vc xs zH_49 (n + 1) b d 49 27 ml st t Q = vga ml 0 (fun v => vc xs zH_49 n true d 49 28 ml (.ref v :: st) t Q) := by
  rw [vc_q (o := (2, 0, 0, 0, [])) (by decide +kernel)]; rfl
theorem v_49_28 (xs : Option (List Int32)) (n : Nat) (b : Bool) (d : Nat) (ml : List Value) (t : T) (Q : Option Value → T → Prop) (st : List Value) : vc xs zH_49 (n + 1) b d 49 28 ml st t Q = vgi ml 1 (fun v => vc xs zH_49 n true d 49 29 ml (.int v :: st) t Q) := by
  rw [vc_q (o := (1, 0, 1, 0, [])) (by decide +kernel)]; rfl
theorem v_49_29 (xs : Option (List Int32)) (n : Nat) (b : Bool) (d : Nat) (ml : List Value) (t : T) (Q : Option Value → T → Prop) (st : List Value) : vc xs zH_49 (n + 1) b d 49 29 ml st t Q = vgi ml 3 (fun v => vc xs zH_49 n true d 49 30 ml (.int v :: st) t Q) := by
  rw [vc_q (o := (1, 0, 3, 0, [])) (by decide +kernel)]; rfl
theorem v_49_30 (xs : Option (List Int32)) (n : Nat) (b : Bool) (d : Nat) (ml : List Value) (t : T) (Q : Option Value → T → Prop) (st : List Value) : vc xs zH_49 (n + 1) b d 49 30 ml st t Q = vc xs zH_49 n true d 49 31 ml (.int 0 :: st) t Q := by
  rw [vc_q (o := (0, 0, 0, 0, [])) (by decide +kernel)]; rfl
theorem v_49_31 (xs : Option (List Int32)) (n : Nat) (b : Bool) (d : Nat) (ml : List Value) (t : T) (Q : Option Value → T → Prop) (st : List Value) : vc xs zH_49 (n + 1) b d 49 31 ml st t Q = (st.all zc1 = true ∧ vtk 4 st [] (fun as rest => rest.length ≤ 8 ∧ vrc as 12 (twc d 39 as t (fun r t' => vc xs zH_49 n true d 49 34 ml (r.toList ++ rest) t' Q)))) := by
  rw [vc_q (o := (36, 0, 39, 3, [(0, 12)])) (by decide +kernel)]; rfl
theorem v_49_34 (xs : Option (List Int32)) (n : Nat) (b : Bool) (d : Nat) (ml : List Value) (t : T) (Q : Option Value → T → Prop) (st : List Value) : vc xs zH_49 (n + 1) b d 49 34 ml st t Q = vgi ml 3 (fun v => vset ml 3 (.int (v + 1)) (fun l => vc xs zH_49 n true d 49 37 l st t Q)) := by
  rw [vc_q (o := (5, 1, 3, 0, [])) (by decide +kernel)]; rfl
theorem v_49_37 (xs : Option (List Int32)) (n : Nat) (b : Bool) (d : Nat) (ml : List Value) (t : T) (Q : Option Value → T → Prop) (st : List Value) : vc xs zH_49 (n + 1) b d 49 37 ml st t Q = vc xs zH_49 n true d 49 21 ml st t Q := by
  rw [vc_q (o := (22, 0, 21, 0, [])) (by decide +kernel)]; rfl
theorem v_49_40 (xs : Option (List Int32)) (n : Nat) (b : Bool) (d : Nat) (ml : List Value) (t : T) (Q : Option Value → T → Prop) (st : List Value) : vc xs zH_49 (n + 1) b d 49 40 ml st t Q = vga ml 0 (fun v => vc xs zH_49 n true d 49 41 ml (.ref v :: st) t Q) := by
  rw [vc_q (o := (2, 0, 0, 0, [])) (by decide +kernel)]; rfl
theorem v_49_41 (xs : Option (List Int32)) (n : Nat) (b : Bool) (d : Nat) (ml : List Value) (t : T) (Q : Option Value → T → Prop) (st : List Value) : vc xs zH_49 (n + 1) b d 49 41 ml st t Q = vgi ml 1 (fun v => vc xs zH_49 n true d 49 42 ml (.int v :: st) t Q) := by
  rw [vc_q (o := (1, 0, 1, 0, [])) (by decide +kernel)]; rfl
theorem v_49_42 (xs : Option (List Int32)) (n : Nat) (b : Bool) (d : Nat) (ml : List Value) (t : T) (Q : Option Value → T → Prop) (st : List Value) : vc xs zH_49 (n + 1) b d 49 42 ml st t Q = vc xs zH_49 n true d 49 43 ml (.int 0 :: st) t Q := by
  rw [vc_q (o := (0, 0, 0, 0, [])) (by decide +kernel)]; rfl
theorem v_49_43 (xs : Option (List Int32)) (n : Nat) (b : Bool) (d : Nat) (ml : List Value) (t : T) (Q : Option Value → T → Prop) (st : List Value) : vc xs zH_49 (n + 1) b d 49 43 ml st t Q = vgi ml 2 (fun v => vc xs zH_49 n true d 49 44 ml (.int v :: st) t Q) := by
  rw [vc_q (o := (1, 0, 2, 0, [])) (by decide +kernel)]; rfl
theorem v_49_44 (xs : Option (List Int32)) (n : Nat) (b : Bool) (d : Nat) (ml : List Value) (t : T) (Q : Option Value → T → Prop) (st : List Value) : vc xs zH_49 (n + 1) b d 49 44 ml st t Q = (st.all zc1 = true ∧ vtk 4 st [] (fun as rest => rest.length ≤ 8 ∧ vrc as 12 (twc d 39 as t (fun r t' => vc xs zH_49 n true d 49 47 ml (r.toList ++ rest) t' Q)))) := by
  rw [vc_q (o := (36, 0, 39, 3, [(0, 12)])) (by decide +kernel)]; rfl
theorem v_49_47 (xs : Option (List Int32)) (n : Nat) (b : Bool) (d : Nat) (ml : List Value) (t : T) (Q : Option Value → T → Prop) (st : List Value) : vc xs zH_49 (n + 1) b d 49 47 ml st t Q = vc xs zH_49 n true d 49 48 ml (.int 1 :: st) t Q := by
  rw [vc_q (o := (0, 1, 0, 0, [])) (by decide +kernel)]; rfl
theorem v_49_48 (xs : Option (List Int32)) (n : Nat) (b : Bool) (d : Nat) (ml : List Value) (t : T) (Q : Option Value → T → Prop) (v : Int32) : vc xs zH_49 (n + 1) b d 49 48 ml [.int v] t Q = ((v = 0 ∨ v = 1) ∧ Q (some (.int v)) t) := by
  rw [vc_q (o := (41, 0, 0, 0, [])) (by decide +kernel)]; rfl
def zH_50 : List Nat := []
theorem v_50_0 (xs : Option (List Int32)) (n : Nat) (b : Bool) (d : Nat) (ml : List Value) (t : T) (Q : Option Value → T → Prop) (st : List Value) : vc xs zH_50 (n + 1) b d 50 0 ml st t Q = vgi ml 1 (fun v => vc xs zH_50 n true d 50 1 ml (.int v :: st) t Q) := by
  rw [vc_q (o := (1, 0, 1, 0, [])) (by decide +kernel)]; rfl
theorem v_50_1 (xs : Option (List Int32)) (n : Nat) (b : Bool) (d : Nat) (ml : List Value) (t : T) (Q : Option Value → T → Prop) (st : List Value) : vc xs zH_50 (n + 1) b d 50 1 ml st t Q = (st.all zc1 = true ∧ vtk 1 st [] (fun as rest => rest.length ≤ 8 ∧ twc d 47 as t (fun r t' => vc xs zH_50 n true d 50 4 ml (r.toList ++ rest) t' Q))) := by
  rw [vc_q (o := (37, 0, 47, 1, [])) (by decide +kernel)]; rfl
theorem v_50_4 (xs : Option (List Int32)) (n : Nat) (b : Bool) (d : Nat) (ml : List Value) (t : T) (Q : Option Value → T → Prop) (u : Int32) (r : List Value) : vc xs zH_50 (n + 1) b d 50 4 ml (.int u :: r) t Q = (if u = 0 then vc xs zH_50 n true d 50 16 ml r t Q else vc xs zH_50 n true d 50 7 ml r t Q) := by
  rw [vc_q (o := (21, 0, 16, 0, [])) (by decide +kernel)]; rfl
theorem v_50_7 (xs : Option (List Int32)) (n : Nat) (b : Bool) (d : Nat) (ml : List Value) (t : T) (Q : Option Value → T → Prop) (st : List Value) : vc xs zH_50 (n + 1) b d 50 7 ml st t Q = vga ml 0 (fun v => vc xs zH_50 n true d 50 8 ml (.ref v :: st) t Q) := by
  rw [vc_q (o := (2, 0, 0, 0, [])) (by decide +kernel)]; rfl
theorem v_50_8 (xs : Option (List Int32)) (n : Nat) (b : Bool) (d : Nat) (ml : List Value) (t : T) (Q : Option Value → T → Prop) (st : List Value) : vc xs zH_50 (n + 1) b d 50 8 ml st t Q = vgi ml 1 (fun v => vc xs zH_50 n true d 50 9 ml (.int v :: st) t Q) := by
  rw [vc_q (o := (1, 0, 1, 0, [])) (by decide +kernel)]; rfl
theorem v_50_9 (xs : Option (List Int32)) (n : Nat) (b : Bool) (d : Nat) (ml : List Value) (t : T) (Q : Option Value → T → Prop) (st : List Value) : vc xs zH_50 (n + 1) b d 50 9 ml st t Q = vgi ml 2 (fun v => vc xs zH_50 n true d 50 10 ml (.int v :: st) t Q) := by
  rw [vc_q (o := (1, 0, 2, 0, [])) (by decide +kernel)]; rfl
theorem v_50_10 (xs : Option (List Int32)) (n : Nat) (b : Bool) (d : Nat) (ml : List Value) (t : T) (Q : Option Value → T → Prop) (st : List Value) : vc xs zH_50 (n + 1) b d 50 10 ml st t Q = (st.all zc1 = true ∧ vtk 3 st [] (fun as rest => rest.length ≤ 8 ∧ vrc as 12 (twc d 48 as t (fun r t' => vc xs zH_50 n true d 50 13 ml (r.toList ++ rest) t' Q)))) := by
  rw [vc_q (o := (36, 0, 48, 2, [(0, 12)])) (by decide +kernel)]; rfl
theorem v_50_13 (xs : Option (List Int32)) (n : Nat) (b : Bool) (d : Nat) (ml : List Value) (t : T) (Q : Option Value → T → Prop) (u : Int32) (r : List Value) : vc xs zH_50 (n + 1) b d 50 13 ml (.int u :: r) t Q = (if u = 0 then vc xs zH_50 n true d 50 16 ml r t Q else vc xs zH_50 n true d 50 18 ml r t Q) := by
  rw [vc_q (o := (21, 0, 18, 1, [])) (by decide +kernel)]; rfl
theorem v_50_16 (xs : Option (List Int32)) (n : Nat) (b : Bool) (d : Nat) (ml : List Value) (t : T) (Q : Option Value → T → Prop) (st : List Value) : vc xs zH_50 (n + 1) b d 50 16 ml st t Q = vc xs zH_50 n true d 50 17 ml (.int 0 :: st) t Q := by
  rw [vc_q (o := (0, 0, 0, 0, [])) (by decide +kernel)]; rfl
theorem v_50_17 (xs : Option (List Int32)) (n : Nat) (b : Bool) (d : Nat) (ml : List Value) (t : T) (Q : Option Value → T → Prop) (v : Int32) : vc xs zH_50 (n + 1) b d 50 17 ml [.int v] t Q = ((v = 0 ∨ v = 1) ∧ Q (some (.int v)) t) := by
  rw [vc_q (o := (41, 0, 0, 0, [])) (by decide +kernel)]; rfl
theorem v_50_18 (xs : Option (List Int32)) (n : Nat) (b : Bool) (d : Nat) (ml : List Value) (t : T) (Q : Option Value → T → Prop) (st : List Value) : vc xs zH_50 (n + 1) b d 50 18 ml st t Q = vga ml 0 (fun v => vc xs zH_50 n true d 50 19 ml (.ref v :: st) t Q) := by
  rw [vc_q (o := (2, 0, 0, 0, [])) (by decide +kernel)]; rfl
theorem v_50_19 (xs : Option (List Int32)) (n : Nat) (b : Bool) (d : Nat) (ml : List Value) (t : T) (Q : Option Value → T → Prop) (st : List Value) : vc xs zH_50 (n + 1) b d 50 19 ml st t Q = vgi ml 1 (fun v => vc xs zH_50 n true d 50 20 ml (.int v :: st) t Q) := by
  rw [vc_q (o := (1, 0, 1, 0, [])) (by decide +kernel)]; rfl
theorem v_50_20 (xs : Option (List Int32)) (n : Nat) (b : Bool) (d : Nat) (ml : List Value) (t : T) (Q : Option Value → T → Prop) (st : List Value) : vc xs zH_50 (n + 1) b d 50 20 ml st t Q = vc xs zH_50 n true d 50 21 ml (.int 3 :: st) t Q := by
  rw [vc_q (o := (0, 3, 0, 0, [])) (by decide +kernel)]; rfl
theorem v_50_21 (xs : Option (List Int32)) (n : Nat) (b : Bool) (d : Nat) (ml : List Value) (t : T) (Q : Option Value → T → Prop) (st : List Value) : vc xs zH_50 (n + 1) b d 50 21 ml st t Q = vc xs zH_50 n true d 50 22 ml (.int 5 :: st) t Q := by
  rw [vc_q (o := (0, 5, 0, 0, [])) (by decide +kernel)]; rfl
theorem v_50_22 (xs : Option (List Int32)) (n : Nat) (b : Bool) (d : Nat) (ml : List Value) (t : T) (Q : Option Value → T → Prop) (st : List Value) : vc xs zH_50 (n + 1) b d 50 22 ml st t Q = vgi ml 2 (fun v => vc xs zH_50 n true d 50 23 ml (.int v :: st) t Q) := by
  rw [vc_q (o := (1, 0, 2, 0, [])) (by decide +kernel)]; rfl
theorem v_50_23 (xs : Option (List Int32)) (n : Nat) (b : Bool) (d : Nat) (ml : List Value) (t : T) (Q : Option Value → T → Prop) (u v : Int32) (r : List Value) : vc xs zH_50 (n + 1) b d 50 23 ml (.int v :: .int u :: r) t Q = vc xs zH_50 n true d 50 24 ml (.int (u * v) :: r) t Q := by
  rw [vc_q (o := (8, 0, 0, 0, [])) (by decide +kernel)]; rfl
theorem v_50_24 (xs : Option (List Int32)) (n : Nat) (b : Bool) (d : Nat) (ml : List Value) (t : T) (Q : Option Value → T → Prop) (u v : Int32) (r : List Value) : vc xs zH_50 (n + 1) b d 50 24 ml (.int v :: .int u :: r) t Q = vc xs zH_50 n true d 50 25 ml (.int (u + v) :: r) t Q := by
  rw [vc_q (o := (6, 0, 0, 0, [])) (by decide +kernel)]; rfl
theorem v_50_25 (xs : Option (List Int32)) (n : Nat) (b : Bool) (d : Nat) (ml : List Value) (t : T) (Q : Option Value → T → Prop) (st : List Value) : vc xs zH_50 (n + 1) b d 50 25 ml st t Q = vgi ml 3 (fun v => vc xs zH_50 n true d 50 26 ml (.int v :: st) t Q) := by
  rw [vc_q (o := (1, 0, 3, 0, [])) (by decide +kernel)]; rfl
theorem v_50_26 (xs : Option (List Int32)) (n : Nat) (b : Bool) (d : Nat) (ml : List Value) (t : T) (Q : Option Value → T → Prop) (u : Int32) (r : List Value) : vc xs zH_50 (n + 1) b d 50 26 ml (.int u :: r) t Q = (if u = 0 then vc xs zH_50 n true d 50 33 ml r t Q else vc xs zH_50 n true d 50 29 ml r t Q) := by
  rw [vc_q (o := (21, 0, 33, 0, [])) (by decide +kernel)]; rfl
theorem v_50_29 (xs : Option (List Int32)) (n : Nat) (b : Bool) (d : Nat) (ml : List Value) (t : T) (Q : Option Value → T → Prop) (st : List Value) : vc xs zH_50 (n + 1) b d 50 29 ml st t Q = vc xs zH_50 n true d 50 30 ml (.int 1 :: st) t Q := by
  rw [vc_q (o := (0, 1, 0, 0, [])) (by decide +kernel)]; rfl
theorem v_50_30 (xs : Option (List Int32)) (n : Nat) (b : Bool) (d : Nat) (ml : List Value) (t : T) (Q : Option Value → T → Prop) (st : List Value) : vc xs zH_50 (n + 1) b d 50 30 ml st t Q = vc xs zH_50 n true d 50 34 ml st t Q := by
  rw [vc_q (o := (22, 0, 34, 0, [])) (by decide +kernel)]; rfl
theorem v_50_33 (xs : Option (List Int32)) (n : Nat) (b : Bool) (d : Nat) (ml : List Value) (t : T) (Q : Option Value → T → Prop) (st : List Value) : vc xs zH_50 (n + 1) b d 50 33 ml st t Q = vc xs zH_50 n true d 50 34 ml (.int 0 :: st) t Q := by
  rw [vc_q (o := (0, 0, 0, 0, [])) (by decide +kernel)]; rfl
theorem v_50_34 (xs : Option (List Int32)) (n : Nat) (b : Bool) (d : Nat) (ml : List Value) (t : T) (Q : Option Value → T → Prop) (st : List Value) : vc xs zH_50 (n + 1) b d 50 34 ml st t Q = (st.all zc1 = true ∧ vtk 4 st [] (fun as rest => rest.length ≤ 8 ∧ vrc as 12 (twc d 39 as t (fun r t' => vc xs zH_50 n true d 50 37 ml (r.toList ++ rest) t' Q)))) := by
  rw [vc_q (o := (36, 0, 39, 3, [(0, 12)])) (by decide +kernel)]; rfl
theorem v_50_37 (xs : Option (List Int32)) (n : Nat) (b : Bool) (d : Nat) (ml : List Value) (t : T) (Q : Option Value → T → Prop) (st : List Value) : vc xs zH_50 (n + 1) b d 50 37 ml st t Q = vc xs zH_50 n true d 50 38 ml (.int 1 :: st) t Q := by
  rw [vc_q (o := (0, 1, 0, 0, [])) (by decide +kernel)]; rfl
theorem v_50_38 (xs : Option (List Int32)) (n : Nat) (b : Bool) (d : Nat) (ml : List Value) (t : T) (Q : Option Value → T → Prop) (v : Int32) : vc xs zH_50 (n + 1) b d 50 38 ml [.int v] t Q = ((v = 0 ∨ v = 1) ∧ Q (some (.int v)) t) := by
  rw [vc_q (o := (41, 0, 0, 0, [])) (by decide +kernel)]; rfl
def zH_51 : List Nat := []
theorem v_51_0 (xs : Option (List Int32)) (n : Nat) (b : Bool) (d : Nat) (ml : List Value) (t : T) (Q : Option Value → T → Prop) (st : List Value) : vc xs zH_51 (n + 1) b d 51 0 ml st t Q = vgi ml 2 (fun v => vc xs zH_51 n true d 51 1 ml (.int v :: st) t Q) := by
  rw [vc_q (o := (1, 0, 2, 0, [])) (by decide +kernel)]; rfl
theorem v_51_1 (xs : Option (List Int32)) (n : Nat) (b : Bool) (d : Nat) (ml : List Value) (t : T) (Q : Option Value → T → Prop) (st : List Value) : vc xs zH_51 (n + 1) b d 51 1 ml st t Q = vc xs zH_51 n true d 51 2 ml (.int 2 :: st) t Q := by
  rw [vc_q (o := (0, 2, 0, 0, [])) (by decide +kernel)]; rfl
theorem v_51_2 (xs : Option (List Int32)) (n : Nat) (b : Bool) (d : Nat) (ml : List Value) (t : T) (Q : Option Value → T → Prop) (u v : Int32) (r : List Value) : vc xs zH_51 (n + 1) b d 51 2 ml (.int v :: .int u :: r) t Q = (if u < v then vc xs zH_51 n true d 51 30 ml r t Q else vc xs zH_51 n true d 51 5 ml r t Q) := by
  rw [vc_q (o := (20, 0, 30, 2, [])) (by decide +kernel)]; rfl
theorem v_51_5 (xs : Option (List Int32)) (n : Nat) (b : Bool) (d : Nat) (ml : List Value) (t : T) (Q : Option Value → T → Prop) (st : List Value) : vc xs zH_51 (n + 1) b d 51 5 ml st t Q = vga ml 0 (fun v => vc xs zH_51 n true d 51 6 ml (.ref v :: st) t Q) := by
  rw [vc_q (o := (2, 0, 0, 0, [])) (by decide +kernel)]; rfl
theorem v_51_6 (xs : Option (List Int32)) (n : Nat) (b : Bool) (d : Nat) (ml : List Value) (t : T) (Q : Option Value → T → Prop) (st : List Value) : vc xs zH_51 (n + 1) b d 51 6 ml st t Q = vgi ml 1 (fun v => vc xs zH_51 n true d 51 7 ml (.int v :: st) t Q) := by
  rw [vc_q (o := (1, 0, 1, 0, [])) (by decide +kernel)]; rfl
theorem v_51_7 (xs : Option (List Int32)) (n : Nat) (b : Bool) (d : Nat) (ml : List Value) (t : T) (Q : Option Value → T → Prop) (st : List Value) : vc xs zH_51 (n + 1) b d 51 7 ml st t Q = vgi ml 3 (fun v => vc xs zH_51 n true d 51 8 ml (.int v :: st) t Q) := by
  rw [vc_q (o := (1, 0, 3, 0, [])) (by decide +kernel)]; rfl
theorem v_51_8 (xs : Option (List Int32)) (n : Nat) (b : Bool) (d : Nat) (ml : List Value) (t : T) (Q : Option Value → T → Prop) (st : List Value) : vc xs zH_51 (n + 1) b d 51 8 ml st t Q = (st.all zc1 = true ∧ vtk 3 st [] (fun as rest => rest.length ≤ 8 ∧ vrc as 12 (twc d 48 as t (fun r t' => vc xs zH_51 n true d 51 11 ml (r.toList ++ rest) t' Q)))) := by
  rw [vc_q (o := (36, 0, 48, 2, [(0, 12)])) (by decide +kernel)]; rfl
theorem v_51_11 (xs : Option (List Int32)) (n : Nat) (b : Bool) (d : Nat) (ml : List Value) (t : T) (Q : Option Value → T → Prop) (u : Int32) (r : List Value) : vc xs zH_51 (n + 1) b d 51 11 ml (.int u :: r) t Q = (if u = 0 then vc xs zH_51 n true d 51 34 ml r t Q else vc xs zH_51 n true d 51 14 ml r t Q) := by
  rw [vc_q (o := (21, 0, 34, 0, [])) (by decide +kernel)]; rfl
theorem v_51_14 (xs : Option (List Int32)) (n : Nat) (b : Bool) (d : Nat) (ml : List Value) (t : T) (Q : Option Value → T → Prop) (st : List Value) : vc xs zH_51 (n + 1) b d 51 14 ml st t Q = vgi ml 2 (fun v => vc xs zH_51 n true d 51 15 ml (.int v :: st) t Q) := by
  rw [vc_q (o := (1, 0, 2, 0, [])) (by decide +kernel)]; rfl
theorem v_51_15 (xs : Option (List Int32)) (n : Nat) (b : Bool) (d : Nat) (ml : List Value) (t : T) (Q : Option Value → T → Prop) (st : List Value) : vc xs zH_51 (n + 1) b d 51 15 ml st t Q = vc xs zH_51 n true d 51 17 ml (.int 6 :: st) t Q := by
  rw [vc_q (o := (0, 6, 1, 0, [])) (by decide +kernel)]; rfl
theorem v_51_17 (xs : Option (List Int32)) (n : Nat) (b : Bool) (d : Nat) (ml : List Value) (t : T) (Q : Option Value → T → Prop) (u v : Int32) (r : List Value) : vc xs zH_51 (n + 1) b d 51 17 ml (.int v :: .int u :: r) t Q = (if u < v then vc xs zH_51 n true d 51 30 ml r t Q else vc xs zH_51 n true d 51 20 ml r t Q) := by
  rw [vc_q (o := (20, 0, 30, 2, [])) (by decide +kernel)]; rfl
theorem v_51_20 (xs : Option (List Int32)) (n : Nat) (b : Bool) (d : Nat) (ml : List Value) (t : T) (Q : Option Value → T → Prop) (st : List Value) : vc xs zH_51 (n + 1) b d 51 20 ml st t Q = vga ml 0 (fun v => vc xs zH_51 n true d 51 21 ml (.ref v :: st) t Q) := by
  rw [vc_q (o := (2, 0, 0, 0, [])) (by decide +kernel)]; rfl
theorem v_51_21 (xs : Option (List Int32)) (n : Nat) (b : Bool) (d : Nat) (ml : List Value) (t : T) (Q : Option Value → T → Prop) (st : List Value) : vc xs zH_51 (n + 1) b d 51 21 ml st t Q = vgi ml 1 (fun v => vc xs zH_51 n true d 51 22 ml (.int v :: st) t Q) := by
  rw [vc_q (o := (1, 0, 1, 0, [])) (by decide +kernel)]; rfl
theorem v_51_22 (xs : Option (List Int32)) (n : Nat) (b : Bool) (d : Nat) (ml : List Value) (t : T) (Q : Option Value → T → Prop) (st : List Value) : vc xs zH_51 (n + 1) b d 51 22 ml st t Q = vgi ml 4 (fun v => vc xs zH_51 n true d 51 24 ml (.int v :: st) t Q) := by
  rw [vc_q (o := (1, 0, 4, 1, [])) (by decide +kernel)]; rfl
theorem v_51_24 (xs : Option (List Int32)) (n : Nat) (b : Bool) (d : Nat) (ml : List Value) (t : T) (Q : Option Value → T → Prop) (st : List Value) : vc xs zH_51 (n + 1) b d 51 24 ml st t Q = (st.all zc1 = true ∧ vtk 3 st [] (fun as rest => rest.length ≤ 8 ∧ vrc as 12 (twc d 48 as t (fun r t' => vc xs zH_51 n true d 51 27 ml (r.toList ++ rest) t' Q)))) := by
  rw [vc_q (o := (36, 0, 48, 2, [(0, 12)])) (by decide +kernel)]; rfl
theorem v_51_27 (xs : Option (List Int32)) (n : Nat) (b : Bool) (d : Nat) (ml : List Value) (t : T) (Q : Option Value → T → Prop) (u : Int32) (r : List Value) : vc xs zH_51 (n + 1) b d 51 27 ml (.int u :: r) t Q = (if u = 0 then vc xs zH_51 n true d 51 34 ml r t Q else vc xs zH_51 n true d 51 30 ml r t Q) := by
  rw [vc_q (o := (21, 0, 34, 0, [])) (by decide +kernel)]; rfl
theorem v_51_30 (xs : Option (List Int32)) (n : Nat) (b : Bool) (d : Nat) (ml : List Value) (t : T) (Q : Option Value → T → Prop) (st : List Value) : vc xs zH_51 (n + 1) b d 51 30 ml st t Q = vc xs zH_51 n true d 51 31 ml (.int 1 :: st) t Q := by
  rw [vc_q (o := (0, 1, 0, 0, [])) (by decide +kernel)]; rfl
theorem v_51_31 (xs : Option (List Int32)) (n : Nat) (b : Bool) (d : Nat) (ml : List Value) (t : T) (Q : Option Value → T → Prop) (st : List Value) : vc xs zH_51 (n + 1) b d 51 31 ml st t Q = vc xs zH_51 n true d 51 35 ml st t Q := by
  rw [vc_q (o := (22, 0, 35, 0, [])) (by decide +kernel)]; rfl
theorem v_51_34 (xs : Option (List Int32)) (n : Nat) (b : Bool) (d : Nat) (ml : List Value) (t : T) (Q : Option Value → T → Prop) (st : List Value) : vc xs zH_51 (n + 1) b d 51 34 ml st t Q = vc xs zH_51 n true d 51 35 ml (.int 0 :: st) t Q := by
  rw [vc_q (o := (0, 0, 0, 0, [])) (by decide +kernel)]; rfl
theorem v_51_35 (xs : Option (List Int32)) (n : Nat) (b : Bool) (d : Nat) (ml : List Value) (t : T) (Q : Option Value → T → Prop) (v : Int32) : vc xs zH_51 (n + 1) b d 51 35 ml [.int v] t Q = ((v = 0 ∨ v = 1) ∧ Q (some (.int v)) t) := by
  rw [vc_q (o := (41, 0, 0, 0, [])) (by decide +kernel)]; rfl
def zH_52 : List Nat := []
theorem v_52_0 (xs : Option (List Int32)) (n : Nat) (b : Bool) (d : Nat) (ml : List Value) (t : T) (Q : Option Value → T → Prop) (st : List Value) : vc xs zH_52 (n + 1) b d 52 0 ml st t Q = vgi ml 1 (fun v => vc xs zH_52 n true d 52 1 ml (.int v :: st) t Q) := by
  rw [vc_q (o := (1, 0, 1, 0, [])) (by decide +kernel)]; rfl
theorem v_52_1 (xs : Option (List Int32)) (n : Nat) (b : Bool) (d : Nat) (ml : List Value) (t : T) (Q : Option Value → T → Prop) (st : List Value) : vc xs zH_52 (n + 1) b d 52 1 ml st t Q = (st.all zc1 = true ∧ vtk 1 st [] (fun as rest => rest.length ≤ 8 ∧ twc d 47 as t (fun r t' => vc xs zH_52 n true d 52 4 ml (r.toList ++ rest) t' Q))) := by
  rw [vc_q (o := (37, 0, 47, 1, [])) (by decide +kernel)]; rfl
theorem v_52_4 (xs : Option (List Int32)) (n : Nat) (b : Bool) (d : Nat) (ml : List Value) (t : T) (Q : Option Value → T → Prop) (u : Int32) (r : List Value) : vc xs zH_52 (n + 1) b d 52 4 ml (.int u :: r) t Q = (if u = 0 then vc xs zH_52 n true d 52 39 ml r t Q else vc xs zH_52 n true d 52 7 ml r t Q) := by
  rw [vc_q (o := (21, 0, 39, 0, [])) (by decide +kernel)]; rfl
theorem v_52_7 (xs : Option (List Int32)) (n : Nat) (b : Bool) (d : Nat) (ml : List Value) (t : T) (Q : Option Value → T → Prop) (st : List Value) : vc xs zH_52 (n + 1) b d 52 7 ml st t Q = vgi ml 2 (fun v => vc xs zH_52 n true d 52 8 ml (.int v :: st) t Q) := by
  rw [vc_q (o := (1, 0, 2, 0, [])) (by decide +kernel)]; rfl
theorem v_52_8 (xs : Option (List Int32)) (n : Nat) (b : Bool) (d : Nat) (ml : List Value) (t : T) (Q : Option Value → T → Prop) (st : List Value) : vc xs zH_52 (n + 1) b d 52 8 ml st t Q = vc xs zH_52 n true d 52 9 ml (.int 0 :: st) t Q := by
  rw [vc_q (o := (0, 0, 0, 0, [])) (by decide +kernel)]; rfl
theorem v_52_9 (xs : Option (List Int32)) (n : Nat) (b : Bool) (d : Nat) (ml : List Value) (t : T) (Q : Option Value → T → Prop) (st : List Value) : vc xs zH_52 (n + 1) b d 52 9 ml st t Q = vc xs zH_52 n true d 52 11 ml (.int 7 :: st) t Q := by
  rw [vc_q (o := (0, 7, 1, 0, [])) (by decide +kernel)]; rfl
theorem v_52_11 (xs : Option (List Int32)) (n : Nat) (b : Bool) (d : Nat) (ml : List Value) (t : T) (Q : Option Value → T → Prop) (st : List Value) : vc xs zH_52 (n + 1) b d 52 11 ml st t Q = (st.all zc1 = true ∧ vtk 3 st [] (fun as rest => rest.length ≤ 8 ∧ twc d 37 as t (fun r t' => vc xs zH_52 n true d 52 14 ml (r.toList ++ rest) t' Q))) := by
  rw [vc_q (o := (37, 0, 37, 3, [])) (by decide +kernel)]; rfl
theorem v_52_14 (xs : Option (List Int32)) (n : Nat) (b : Bool) (d : Nat) (ml : List Value) (t : T) (Q : Option Value → T → Prop) (u : Int32) (r : List Value) : vc xs zH_52 (n + 1) b d 52 14 ml (.int u :: r) t Q = (if u = 0 then vc xs zH_52 n true d 52 17 ml r t Q else vc xs zH_52 n true d 52 39 ml r t Q) := by
  rw [vc_q (o := (21, 0, 39, 1, [])) (by decide +kernel)]; rfl
theorem v_52_17 (xs : Option (List Int32)) (n : Nat) (b : Bool) (d : Nat) (ml : List Value) (t : T) (Q : Option Value → T → Prop) (st : List Value) : vc xs zH_52 (n + 1) b d 52 17 ml st t Q = vga ml 0 (fun v => vc xs zH_52 n true d 52 18 ml (.ref v :: st) t Q) := by
  rw [vc_q (o := (2, 0, 0, 0, [])) (by decide +kernel)]; rfl
theorem v_52_18 (xs : Option (List Int32)) (n : Nat) (b : Bool) (d : Nat) (ml : List Value) (t : T) (Q : Option Value → T → Prop) (st : List Value) : vc xs zH_52 (n + 1) b d 52 18 ml st t Q = vgi ml 1 (fun v => vc xs zH_52 n true d 52 19 ml (.int v :: st) t Q) := by
  rw [vc_q (o := (1, 0, 1, 0, [])) (by decide +kernel)]; rfl
theorem v_52_19 (xs : Option (List Int32)) (n : Nat) (b : Bool) (d : Nat) (ml : List Value) (t : T) (Q : Option Value → T → Prop) (st : List Value) : vc xs zH_52 (n + 1) b d 52 19 ml st t Q = vgi ml 2 (fun v => vc xs zH_52 n true d 52 20 ml (.int v :: st) t Q) := by
  rw [vc_q (o := (1, 0, 2, 0, [])) (by decide +kernel)]; rfl
theorem v_52_20 (xs : Option (List Int32)) (n : Nat) (b : Bool) (d : Nat) (ml : List Value) (t : T) (Q : Option Value → T → Prop) (st : List Value) : vc xs zH_52 (n + 1) b d 52 20 ml st t Q = vgi ml 3 (fun v => vc xs zH_52 n true d 52 21 ml (.int v :: st) t Q) := by
  rw [vc_q (o := (1, 0, 3, 0, [])) (by decide +kernel)]; rfl
theorem v_52_21 (xs : Option (List Int32)) (n : Nat) (b : Bool) (d : Nat) (ml : List Value) (t : T) (Q : Option Value → T → Prop) (st : List Value) : vc xs zH_52 (n + 1) b d 52 21 ml st t Q = vgi ml 4 (fun v => vc xs zH_52 n true d 52 23 ml (.int v :: st) t Q) := by
  rw [vc_q (o := (1, 0, 4, 1, [])) (by decide +kernel)]; rfl
theorem v_52_23 (xs : Option (List Int32)) (n : Nat) (b : Bool) (d : Nat) (ml : List Value) (t : T) (Q : Option Value → T → Prop) (st : List Value) : vc xs zH_52 (n + 1) b d 52 23 ml st t Q = (st.all zc1 = true ∧ vtk 5 st [] (fun as rest => rest.length ≤ 8 ∧ vrc as 12 (twc d 51 as t (fun r t' => vc xs zH_52 n true d 52 26 ml (r.toList ++ rest) t' Q)))) := by
  rw [vc_q (o := (36, 0, 51, 4, [(0, 12)])) (by decide +kernel)]; rfl
theorem v_52_26 (xs : Option (List Int32)) (n : Nat) (b : Bool) (d : Nat) (ml : List Value) (t : T) (Q : Option Value → T → Prop) (u : Int32) (r : List Value) : vc xs zH_52 (n + 1) b d 52 26 ml (.int u :: r) t Q = (if u = 0 then vc xs zH_52 n true d 52 39 ml r t Q else vc xs zH_52 n true d 52 29 ml r t Q) := by
  rw [vc_q (o := (21, 0, 39, 0, [])) (by decide +kernel)]; rfl
theorem v_52_29 (xs : Option (List Int32)) (n : Nat) (b : Bool) (d : Nat) (ml : List Value) (t : T) (Q : Option Value → T → Prop) (st : List Value) : vc xs zH_52 (n + 1) b d 52 29 ml st t Q = vgi ml 5 (fun v => vc xs zH_52 n true d 52 31 ml (.int v :: st) t Q) := by
  rw [vc_q (o := (1, 0, 5, 1, [])) (by decide +kernel)]; rfl
theorem v_52_31 (xs : Option (List Int32)) (n : Nat) (b : Bool) (d : Nat) (ml : List Value) (t : T) (Q : Option Value → T → Prop) (st : List Value) : vc xs zH_52 (n + 1) b d 52 31 ml st t Q = vc xs zH_52 n true d 52 32 ml (.int 0 :: st) t Q := by
  rw [vc_q (o := (0, 0, 0, 0, [])) (by decide +kernel)]; rfl
theorem v_52_32 (xs : Option (List Int32)) (n : Nat) (b : Bool) (d : Nat) (ml : List Value) (t : T) (Q : Option Value → T → Prop) (st : List Value) : vc xs zH_52 (n + 1) b d 52 32 ml st t Q = vc xs zH_52 n true d 52 33 ml (.int 2 :: st) t Q := by
  rw [vc_q (o := (0, 2, 0, 0, [])) (by decide +kernel)]; rfl
theorem v_52_33 (xs : Option (List Int32)) (n : Nat) (b : Bool) (d : Nat) (ml : List Value) (t : T) (Q : Option Value → T → Prop) (st : List Value) : vc xs zH_52 (n + 1) b d 52 33 ml st t Q = (st.all zc1 = true ∧ vtk 3 st [] (fun as rest => rest.length ≤ 8 ∧ twc d 37 as t (fun r t' => vc xs zH_52 n true d 52 36 ml (r.toList ++ rest) t' Q))) := by
  rw [vc_q (o := (37, 0, 37, 3, [])) (by decide +kernel)]; rfl
theorem v_52_36 (xs : Option (List Int32)) (n : Nat) (b : Bool) (d : Nat) (ml : List Value) (t : T) (Q : Option Value → T → Prop) (u : Int32) (r : List Value) : vc xs zH_52 (n + 1) b d 52 36 ml (.int u :: r) t Q = (if u = 0 then vc xs zH_52 n true d 52 41 ml r t Q else vc xs zH_52 n true d 52 39 ml r t Q) := by
  rw [vc_q (o := (21, 0, 41, 0, [])) (by decide +kernel)]; rfl
theorem v_52_39 (xs : Option (List Int32)) (n : Nat) (b : Bool) (d : Nat) (ml : List Value) (t : T) (Q : Option Value → T → Prop) (st : List Value) : vc xs zH_52 (n + 1) b d 52 39 ml st t Q = vc xs zH_52 n true d 52 40 ml (.int 0 :: st) t Q := by
  rw [vc_q (o := (0, 0, 0, 0, [])) (by decide +kernel)]; rfl
theorem v_52_40 (xs : Option (List Int32)) (n : Nat) (b : Bool) (d : Nat) (ml : List Value) (t : T) (Q : Option Value → T → Prop) (v : Int32) : vc xs zH_52 (n + 1) b d 52 40 ml [.int v] t Q = ((v = 0 ∨ v = 1) ∧ Q (some (.int v)) t) := by
  rw [vc_q (o := (41, 0, 0, 0, [])) (by decide +kernel)]; rfl
theorem v_52_41 (xs : Option (List Int32)) (n : Nat) (b : Bool) (d : Nat) (ml : List Value) (t : T) (Q : Option Value → T → Prop) (st : List Value) : vc xs zH_52 (n + 1) b d 52 41 ml st t Q = vga ml 0 (fun v => vc xs zH_52 n true d 52 42 ml (.ref v :: st) t Q) := by
  rw [vc_q (o := (2, 0, 0, 0, [])) (by decide +kernel)]; rfl
theorem v_52_42 (xs : Option (List Int32)) (n : Nat) (b : Bool) (d : Nat) (ml : List Value) (t : T) (Q : Option Value → T → Prop) (st : List Value) : vc xs zH_52 (n + 1) b d 52 42 ml st t Q = vgi ml 1 (fun v => vc xs zH_52 n true d 52 43 ml (.int v :: st) t Q) := by
  rw [vc_q (o := (1, 0, 1, 0, [])) (by decide +kernel)]; rfl
theorem v_52_43 (xs : Option (List Int32)) (n : Nat) (b : Bool) (d : Nat) (ml : List Value) (t : T) (Q : Option Value → T → Prop) (st : List Value) : vc xs zH_52 (n + 1) b d 52 43 ml st t Q = vgi ml 2 (fun v => vc xs zH_52 n true d 52 44 ml (.int v :: st) t Q) := by
  rw [vc_q (o := (1, 0, 2, 0, [])) (by decide +kernel)]; rfl
theorem v_52_44 (xs : Option (List Int32)) (n : Nat) (b : Bool) (d : Nat) (ml : List Value) (t : T) (Q : Option Value → T → Prop) (st : List Value) : vc xs zH_52 (n + 1) b d 52 44 ml st t Q = vgi ml 3 (fun v => vc xs zH_52 n true d 52 45 ml (.int v :: st) t Q) := by
  rw [vc_q (o := (1, 0, 3, 0, [])) (by decide +kernel)]; rfl
theorem v_52_45 (xs : Option (List Int32)) (n : Nat) (b : Bool) (d : Nat) (ml : List Value) (t : T) (Q : Option Value → T → Prop) (st : List Value) : vc xs zH_52 (n + 1) b d 52 45 ml st t Q = vgi ml 4 (fun v => vc xs zH_52 n true d 52 47 ml (.int v :: st) t Q) := by
  rw [vc_q (o := (1, 0, 4, 1, [])) (by decide +kernel)]; rfl
theorem v_52_47 (xs : Option (List Int32)) (n : Nat) (b : Bool) (d : Nat) (ml : List Value) (t : T) (Q : Option Value → T → Prop) (st : List Value) : vc xs zH_52 (n + 1) b d 52 47 ml st t Q = (st.all zc1 = true ∧ vtk 3 st [] (fun as rest => rest.length ≤ 8 ∧ twc d 41 as t (fun r t' => vc xs zH_52 n true d 52 50 ml (r.toList ++ rest) t' Q))) := by
  rw [vc_q (o := (37, 0, 41, 3, [])) (by decide +kernel)]; rfl
theorem v_52_50 (xs : Option (List Int32)) (n : Nat) (b : Bool) (d : Nat) (ml : List Value) (t : T) (Q : Option Value → T → Prop) (st : List Value) : vc xs zH_52 (n + 1) b d 52 50 ml st t Q = vgi ml 5 (fun v => vc xs zH_52 n true d 52 52 ml (.int v :: st) t Q) := by
  rw [vc_q (o := (1, 0, 5, 1, [])) (by decide +kernel)]; rfl
theorem v_52_52 (xs : Option (List Int32)) (n : Nat) (b : Bool) (d : Nat) (ml : List Value) (t : T) (Q : Option Value → T → Prop) (st : List Value) : vc xs zH_52 (n + 1) b d 52 52 ml st t Q = (st.all zc1 = true ∧ vtk 4 st [] (fun as rest => rest.length ≤ 8 ∧ vrc as 12 (twc d 39 as t (fun r t' => vc xs zH_52 n true d 52 55 ml (r.toList ++ rest) t' Q)))) := by
  rw [vc_q (o := (36, 0, 39, 3, [(0, 12)])) (by decide +kernel)]; rfl
theorem v_52_55 (xs : Option (List Int32)) (n : Nat) (b : Bool) (d : Nat) (ml : List Value) (t : T) (Q : Option Value → T → Prop) (st : List Value) : vc xs zH_52 (n + 1) b d 52 55 ml st t Q = vc xs zH_52 n true d 52 56 ml (.int 1 :: st) t Q := by
  rw [vc_q (o := (0, 1, 0, 0, [])) (by decide +kernel)]; rfl
theorem v_52_56 (xs : Option (List Int32)) (n : Nat) (b : Bool) (d : Nat) (ml : List Value) (t : T) (Q : Option Value → T → Prop) (v : Int32) : vc xs zH_52 (n + 1) b d 52 56 ml [.int v] t Q = ((v = 0 ∨ v = 1) ∧ Q (some (.int v)) t) := by
  rw [vc_q (o := (41, 0, 0, 0, [])) (by decide +kernel)]; rfl
def zH_53 : List Nat := []
theorem v_53_0 (xs : Option (List Int32)) (n : Nat) (b : Bool) (d : Nat) (ml : List Value) (t : T) (Q : Option Value → T → Prop) (st : List Value) : vc xs zH_53 (n + 1) b d 53 0 ml st t Q = vgi ml 1 (fun v => vc xs zH_53 n true d 53 1 ml (.int v :: st) t Q) := by
  rw [vc_q (o := (1, 0, 1, 0, [])) (by decide +kernel)]; rfl
theorem v_53_1 (xs : Option (List Int32)) (n : Nat) (b : Bool) (d : Nat) (ml : List Value) (t : T) (Q : Option Value → T → Prop) (st : List Value) : vc xs zH_53 (n + 1) b d 53 1 ml st t Q = (st.all zc1 = true ∧ vtk 1 st [] (fun as rest => rest.length ≤ 8 ∧ twc d 47 as t (fun r t' => vc xs zH_53 n true d 53 4 ml (r.toList ++ rest) t' Q))) := by
  rw [vc_q (o := (37, 0, 47, 1, [])) (by decide +kernel)]; rfl
theorem v_53_4 (xs : Option (List Int32)) (n : Nat) (b : Bool) (d : Nat) (ml : List Value) (t : T) (Q : Option Value → T → Prop) (u : Int32) (r : List Value) : vc xs zH_53 (n + 1) b d 53 4 ml (.int u :: r) t Q = (if u = 0 then vc xs zH_53 n true d 53 29 ml r t Q else vc xs zH_53 n true d 53 7 ml r t Q) := by
  rw [vc_q (o := (21, 0, 29, 0, [])) (by decide +kernel)]; rfl
theorem v_53_7 (xs : Option (List Int32)) (n : Nat) (b : Bool) (d : Nat) (ml : List Value) (t : T) (Q : Option Value → T → Prop) (st : List Value) : vc xs zH_53 (n + 1) b d 53 7 ml st t Q = vgi ml 2 (fun v => vc xs zH_53 n true d 53 8 ml (.int v :: st) t Q) := by
  rw [vc_q (o := (1, 0, 2, 0, [])) (by decide +kernel)]; rfl
theorem v_53_8 (xs : Option (List Int32)) (n : Nat) (b : Bool) (d : Nat) (ml : List Value) (t : T) (Q : Option Value → T → Prop) (st : List Value) : vc xs zH_53 (n + 1) b d 53 8 ml st t Q = vc xs zH_53 n true d 53 9 ml (.int 0 :: st) t Q := by
  rw [vc_q (o := (0, 0, 0, 0, [])) (by decide +kernel)]; rfl
theorem v_53_9 (xs : Option (List Int32)) (n : Nat) (b : Bool) (d : Nat) (ml : List Value) (t : T) (Q : Option Value → T → Prop) (st : List Value) : vc xs zH_53 (n + 1) b d 53 9 ml st t Q = vc xs zH_53 n true d 53 11 ml (.int 8 :: st) t Q := by
  rw [vc_q (o := (0, 8, 1, 0, [])) (by decide +kernel)]; rfl
theorem v_53_11 (xs : Option (List Int32)) (n : Nat) (b : Bool) (d : Nat) (ml : List Value) (t : T) (Q : Option Value → T → Prop) (st : List Value) : vc xs zH_53 (n + 1) b d 53 11 ml st t Q = (st.all zc1 = true ∧ vtk 3 st [] (fun as rest => rest.length ≤ 8 ∧ twc d 37 as t (fun r t' => vc xs zH_53 n true d 53 14 ml (r.toList ++ rest) t' Q))) := by
  rw [vc_q (o := (37, 0, 37, 3, [])) (by decide +kernel)]; rfl
theorem v_53_14 (xs : Option (List Int32)) (n : Nat) (b : Bool) (d : Nat) (ml : List Value) (t : T) (Q : Option Value → T → Prop) (u : Int32) (r : List Value) : vc xs zH_53 (n + 1) b d 53 14 ml (.int u :: r) t Q = (if u = 0 then vc xs zH_53 n true d 53 17 ml r t Q else vc xs zH_53 n true d 53 29 ml r t Q) := by
  rw [vc_q (o := (21, 0, 29, 1, [])) (by decide +kernel)]; rfl
theorem v_53_17 (xs : Option (List Int32)) (n : Nat) (b : Bool) (d : Nat) (ml : List Value) (t : T) (Q : Option Value → T → Prop) (st : List Value) : vc xs zH_53 (n + 1) b d 53 17 ml st t Q = vga ml 0 (fun v => vc xs zH_53 n true d 53 18 ml (.ref v :: st) t Q) := by
  rw [vc_q (o := (2, 0, 0, 0, [])) (by decide +kernel)]; rfl
theorem v_53_18 (xs : Option (List Int32)) (n : Nat) (b : Bool) (d : Nat) (ml : List Value) (t : T) (Q : Option Value → T → Prop) (st : List Value) : vc xs zH_53 (n + 1) b d 53 18 ml st t Q = vgi ml 1 (fun v => vc xs zH_53 n true d 53 19 ml (.int v :: st) t Q) := by
  rw [vc_q (o := (1, 0, 1, 0, [])) (by decide +kernel)]; rfl
theorem v_53_19 (xs : Option (List Int32)) (n : Nat) (b : Bool) (d : Nat) (ml : List Value) (t : T) (Q : Option Value → T → Prop) (st : List Value) : vc xs zH_53 (n + 1) b d 53 19 ml st t Q = vgi ml 2 (fun v => vc xs zH_53 n true d 53 20 ml (.int v :: st) t Q) := by
  rw [vc_q (o := (1, 0, 2, 0, [])) (by decide +kernel)]; rfl
theorem v_53_20 (xs : Option (List Int32)) (n : Nat) (b : Bool) (d : Nat) (ml : List Value) (t : T) (Q : Option Value → T → Prop) (st : List Value) : vc xs zH_53 (n + 1) b d 53 20 ml st t Q = vgi ml 3 (fun v => vc xs zH_53 n true d 53 21 ml (.int v :: st) t Q) := by
  rw [vc_q (o := (1, 0, 3, 0, [])) (by decide +kernel)]; rfl
theorem v_53_21 (xs : Option (List Int32)) (n : Nat) (b : Bool) (d : Nat) (ml : List Value) (t : T) (Q : Option Value → T → Prop) (st : List Value) : vc xs zH_53 (n + 1) b d 53 21 ml st t Q = vgi ml 4 (fun v => vc xs zH_53 n true d 53 23 ml (.int v :: st) t Q) := by
  rw [vc_q (o := (1, 0, 4, 1, [])) (by decide +kernel)]; rfl
theorem v_53_23 (xs : Option (List Int32)) (n : Nat) (b : Bool) (d : Nat) (ml : List Value) (t : T) (Q : Option Value → T → Prop) (st : List Value) : vc xs zH_53 (n + 1) b d 53 23 ml st t Q = (st.all zc1 = true ∧ vtk 5 st [] (fun as rest => rest.length ≤ 8 ∧ vrc as 12 (twc d 51 as t (fun r t' => vc xs zH_53 n true d 53 26 ml (r.toList ++ rest) t' Q)))) := by
  rw [vc_q (o := (36, 0, 51, 4, [(0, 12)])) (by decide +kernel)]; rfl
theorem v_53_26 (xs : Option (List Int32)) (n : Nat) (b : Bool) (d : Nat) (ml : List Value) (t : T) (Q : Option Value → T → Prop) (u : Int32) (r : List Value) : vc xs zH_53 (n + 1) b d 53 26 ml (.int u :: r) t Q = (if u = 0 then vc xs zH_53 n true d 53 29 ml r t Q else vc xs zH_53 n true d 53 33 ml r t Q) := by
  rw [vc_q (o := (21, 0, 33, 1, [])) (by decide +kernel)]; rfl
theorem v_53_29 (xs : Option (List Int32)) (n : Nat) (b : Bool) (d : Nat) (ml : List Value) (t : T) (Q : Option Value → T → Prop) (st : List Value) : vc xs zH_53 (n + 1) b d 53 29 ml st t Q = vc xs zH_53 n true d 53 30 ml (.int (-1) :: st) t Q := by
  rw [vc_q (o := (0, (-1), 0, 0, [])) (by decide +kernel)]; rfl
theorem v_53_30 (xs : Option (List Int32)) (n : Nat) (b : Bool) (d : Nat) (ml : List Value) (t : T) (Q : Option Value → T → Prop) (st : List Value) : vc xs zH_53 (n + 1) b d 53 30 ml st t Q = vc xs zH_53 n true d 53 42 ml st t Q := by
  rw [vc_q (o := (22, 0, 42, 0, [])) (by decide +kernel)]; rfl
theorem v_53_33 (xs : Option (List Int32)) (n : Nat) (b : Bool) (d : Nat) (ml : List Value) (t : T) (Q : Option Value → T → Prop) (st : List Value) : vc xs zH_53 (n + 1) b d 53 33 ml st t Q = vga ml 0 (fun v => vc xs zH_53 n true d 53 34 ml (.ref v :: st) t Q) := by
  rw [vc_q (o := (2, 0, 0, 0, [])) (by decide +kernel)]; rfl
theorem v_53_34 (xs : Option (List Int32)) (n : Nat) (b : Bool) (d : Nat) (ml : List Value) (t : T) (Q : Option Value → T → Prop) (st : List Value) : vc xs zH_53 (n + 1) b d 53 34 ml st t Q = vgi ml 1 (fun v => vc xs zH_53 n true d 53 35 ml (.int v :: st) t Q) := by
  rw [vc_q (o := (1, 0, 1, 0, [])) (by decide +kernel)]; rfl
theorem v_53_35 (xs : Option (List Int32)) (n : Nat) (b : Bool) (d : Nat) (ml : List Value) (t : T) (Q : Option Value → T → Prop) (st : List Value) : vc xs zH_53 (n + 1) b d 53 35 ml st t Q = vgi ml 2 (fun v => vc xs zH_53 n true d 53 36 ml (.int v :: st) t Q) := by
  rw [vc_q (o := (1, 0, 2, 0, [])) (by decide +kernel)]; rfl
theorem v_53_36 (xs : Option (List Int32)) (n : Nat) (b : Bool) (d : Nat) (ml : List Value) (t : T) (Q : Option Value → T → Prop) (st : List Value) : vc xs zH_53 (n + 1) b d 53 36 ml st t Q = vgi ml 3 (fun v => vc xs zH_53 n true d 53 37 ml (.int v :: st) t Q) := by
  rw [vc_q (o := (1, 0, 3, 0, [])) (by decide +kernel)]; rfl
theorem v_53_37 (xs : Option (List Int32)) (n : Nat) (b : Bool) (d : Nat) (ml : List Value) (t : T) (Q : Option Value → T → Prop) (st : List Value) : vc xs zH_53 (n + 1) b d 53 37 ml st t Q = vgi ml 4 (fun v => vc xs zH_53 n true d 53 39 ml (.int v :: st) t Q) := by
  rw [vc_q (o := (1, 0, 4, 1, [])) (by decide +kernel)]; rfl
theorem v_53_39 (xs : Option (List Int32)) (n : Nat) (b : Bool) (d : Nat) (ml : List Value) (t : T) (Q : Option Value → T → Prop) (st : List Value) : vc xs zH_53 (n + 1) b d 53 39 ml st t Q = (st.all zc1 = true ∧ vtk 5 st [] (fun as rest => rest.length ≤ 8 ∧ vrc as 12 (twc d 43 as t (fun r t' => vc xs zH_53 n true d 53 42 ml (r.toList ++ rest) t' Q)))) := by
  rw [vc_q (o := (36, 0, 43, 4, [(0, 12)])) (by decide +kernel)]; rfl
theorem v_53_42 (xs : Option (List Int32)) (n : Nat) (b : Bool) (d : Nat) (ml : List Value) (t : T) (Q : Option Value → T → Prop) (v : Int32) : vc xs zH_53 (n + 1) b d 53 42 ml [.int v] t Q = Q (some (.int v)) t := by
  rw [vc_q (o := (40, 0, 0, 0, [])) (by decide +kernel)]; rfl
def zH_54 : List Nat := []
theorem v_54_0 (xs : Option (List Int32)) (n : Nat) (b : Bool) (d : Nat) (ml : List Value) (t : T) (Q : Option Value → T → Prop) (st : List Value) : vc xs zH_54 (n + 1) b d 54 0 ml st t Q = vgi ml 1 (fun v => vc xs zH_54 n true d 54 1 ml (.int v :: st) t Q) := by
  rw [vc_q (o := (1, 0, 1, 0, [])) (by decide +kernel)]; rfl
theorem v_54_1 (xs : Option (List Int32)) (n : Nat) (b : Bool) (d : Nat) (ml : List Value) (t : T) (Q : Option Value → T → Prop) (st : List Value) : vc xs zH_54 (n + 1) b d 54 1 ml st t Q = (st.all zc1 = true ∧ vtk 1 st [] (fun as rest => rest.length ≤ 8 ∧ twc d 47 as t (fun r t' => vc xs zH_54 n true d 54 4 ml (r.toList ++ rest) t' Q))) := by
  rw [vc_q (o := (37, 0, 47, 1, [])) (by decide +kernel)]; rfl
theorem v_54_4 (xs : Option (List Int32)) (n : Nat) (b : Bool) (d : Nat) (ml : List Value) (t : T) (Q : Option Value → T → Prop) (u : Int32) (r : List Value) : vc xs zH_54 (n + 1) b d 54 4 ml (.int u :: r) t Q = (if u = 0 then vc xs zH_54 n true d 54 15 ml r t Q else vc xs zH_54 n true d 54 7 ml r t Q) := by
  rw [vc_q (o := (21, 0, 15, 0, [])) (by decide +kernel)]; rfl
theorem v_54_7 (xs : Option (List Int32)) (n : Nat) (b : Bool) (d : Nat) (ml : List Value) (t : T) (Q : Option Value → T → Prop) (st : List Value) : vc xs zH_54 (n + 1) b d 54 7 ml st t Q = vga ml 0 (fun v => vc xs zH_54 n true d 54 8 ml (.ref v :: st) t Q) := by
  rw [vc_q (o := (2, 0, 0, 0, [])) (by decide +kernel)]; rfl
theorem v_54_8 (xs : Option (List Int32)) (n : Nat) (b : Bool) (d : Nat) (ml : List Value) (t : T) (Q : Option Value → T → Prop) (st : List Value) : vc xs zH_54 (n + 1) b d 54 8 ml st t Q = vgi ml 1 (fun v => vc xs zH_54 n true d 54 9 ml (.int v :: st) t Q) := by
  rw [vc_q (o := (1, 0, 1, 0, [])) (by decide +kernel)]; rfl
theorem v_54_9 (xs : Option (List Int32)) (n : Nat) (b : Bool) (d : Nat) (ml : List Value) (t : T) (Q : Option Value → T → Prop) (st : List Value) : vc xs zH_54 (n + 1) b d 54 9 ml st t Q = (st.all zc1 = true ∧ vtk 2 st [] (fun as rest => rest.length ≤ 8 ∧ vrc as 12 (twc d 40 as t (fun r t' => vc xs zH_54 n true d 54 12 ml (r.toList ++ rest) t' Q)))) := by
  rw [vc_q (o := (36, 0, 40, 1, [(0, 12)])) (by decide +kernel)]; rfl
theorem v_54_12 (xs : Option (List Int32)) (n : Nat) (b : Bool) (d : Nat) (ml : List Value) (t : T) (Q : Option Value → T → Prop) (st : List Value) : vc xs zH_54 (n + 1) b d 54 12 ml st t Q = vc xs zH_54 n true d 54 16 ml st t Q := by
  rw [vc_q (o := (22, 0, 16, 0, [])) (by decide +kernel)]; rfl
theorem v_54_15 (xs : Option (List Int32)) (n : Nat) (b : Bool) (d : Nat) (ml : List Value) (t : T) (Q : Option Value → T → Prop) (st : List Value) : vc xs zH_54 (n + 1) b d 54 15 ml st t Q = vc xs zH_54 n true d 54 16 ml (.int (-1) :: st) t Q := by
  rw [vc_q (o := (0, (-1), 0, 0, [])) (by decide +kernel)]; rfl
theorem v_54_16 (xs : Option (List Int32)) (n : Nat) (b : Bool) (d : Nat) (ml : List Value) (t : T) (Q : Option Value → T → Prop) (v : Int32) : vc xs zH_54 (n + 1) b d 54 16 ml [.int v] t Q = Q (some (.int v)) t := by
  rw [vc_q (o := (40, 0, 0, 0, [])) (by decide +kernel)]; rfl
def zH_55 : List Nat := []
theorem v_55_0 (xs : Option (List Int32)) (n : Nat) (b : Bool) (d : Nat) (ml : List Value) (t : T) (Q : Option Value → T → Prop) (st : List Value) : vc xs zH_55 (n + 1) b d 55 0 ml st t Q = vgi ml 1 (fun v => vc xs zH_55 n true d 55 1 ml (.int v :: st) t Q) := by
  rw [vc_q (o := (1, 0, 1, 0, [])) (by decide +kernel)]; rfl
theorem v_55_1 (xs : Option (List Int32)) (n : Nat) (b : Bool) (d : Nat) (ml : List Value) (t : T) (Q : Option Value → T → Prop) (u : Int32) (r : List Value) : vc xs zH_55 (n + 1) b d 55 1 ml (.int u :: r) t Q = (if u < 0 then vc xs zH_55 n true d 55 16 ml r t Q else vc xs zH_55 n true d 55 4 ml r t Q) := by
  rw [vc_q (o := (21, 0, 16, 2, [])) (by decide +kernel)]; rfl
theorem v_55_4 (xs : Option (List Int32)) (n : Nat) (b : Bool) (d : Nat) (ml : List Value) (t : T) (Q : Option Value → T → Prop) (st : List Value) : vc xs zH_55 (n + 1) b d 55 4 ml st t Q = vgi ml 1 (fun v => vc xs zH_55 n true d 55 5 ml (.int v :: st) t Q) := by
  rw [vc_q (o := (1, 0, 1, 0, [])) (by decide +kernel)]; rfl
theorem v_55_5 (xs : Option (List Int32)) (n : Nat) (b : Bool) (d : Nat) (ml : List Value) (t : T) (Q : Option Value → T → Prop) (st : List Value) : vc xs zH_55 (n + 1) b d 55 5 ml st t Q = vga ml 0 (fun v => vc xs zH_55 n true d 55 6 ml (.ref v :: st) t Q) := by
  rw [vc_q (o := (2, 0, 0, 0, [])) (by decide +kernel)]; rfl
theorem v_55_6 (xs : Option (List Int32)) (n : Nat) (b : Bool) (d : Nat) (ml : List Value) (t : T) (Q : Option Value → T → Prop) (u : Nat) (r : List Value) : vc xs zH_55 (n + 1) b d 55 6 ml (.ref u :: r) t Q = (vtag u = 12 ∧ vc xs zH_55 n true d 55 9 ml (.int (t.1 u 1) :: r) t Q) := by
  rw [vc_q (o := (24, 0, 12, 1, [])) (by decide +kernel)]; rfl
theorem v_55_9 (xs : Option (List Int32)) (n : Nat) (b : Bool) (d : Nat) (ml : List Value) (t : T) (Q : Option Value → T → Prop) (u v : Int32) (r : List Value) : vc xs zH_55 (n + 1) b d 55 9 ml (.int v :: .int u :: r) t Q = (if u < v then vc xs zH_55 n true d 55 12 ml r t Q else vc xs zH_55 n true d 55 16 ml r t Q) := by
  rw [vc_q (o := (20, 0, 16, 3, [])) (by decide +kernel)]; rfl
theorem v_55_12 (xs : Option (List Int32)) (n : Nat) (b : Bool) (d : Nat) (ml : List Value) (t : T) (Q : Option Value → T → Prop) (st : List Value) : vc xs zH_55 (n + 1) b d 55 12 ml st t Q = vc xs zH_55 n true d 55 13 ml (.int 1 :: st) t Q := by
  rw [vc_q (o := (0, 1, 0, 0, [])) (by decide +kernel)]; rfl
theorem v_55_13 (xs : Option (List Int32)) (n : Nat) (b : Bool) (d : Nat) (ml : List Value) (t : T) (Q : Option Value → T → Prop) (st : List Value) : vc xs zH_55 (n + 1) b d 55 13 ml st t Q = vc xs zH_55 n true d 55 17 ml st t Q := by
  rw [vc_q (o := (22, 0, 17, 0, [])) (by decide +kernel)]; rfl
theorem v_55_16 (xs : Option (List Int32)) (n : Nat) (b : Bool) (d : Nat) (ml : List Value) (t : T) (Q : Option Value → T → Prop) (st : List Value) : vc xs zH_55 (n + 1) b d 55 16 ml st t Q = vc xs zH_55 n true d 55 17 ml (.int 0 :: st) t Q := by
  rw [vc_q (o := (0, 0, 0, 0, [])) (by decide +kernel)]; rfl
theorem v_55_17 (xs : Option (List Int32)) (n : Nat) (b : Bool) (d : Nat) (ml : List Value) (t : T) (Q : Option Value → T → Prop) (v : Int32) : vc xs zH_55 (n + 1) b d 55 17 ml [.int v] t Q = ((v = 0 ∨ v = 1) ∧ Q (some (.int v)) t) := by
  rw [vc_q (o := (41, 0, 0, 0, [])) (by decide +kernel)]; rfl
def zH_56 : List Nat := []
theorem v_56_0 (xs : Option (List Int32)) (n : Nat) (b : Bool) (d : Nat) (ml : List Value) (t : T) (Q : Option Value → T → Prop) (st : List Value) : vc xs zH_56 (n + 1) b d 56 0 ml st t Q = vgi ml 0 (fun v => vc xs zH_56 n true d 56 1 ml (.int v :: st) t Q) := by
  rw [vc_q (o := (1, 0, 0, 0, [])) (by decide +kernel)]; rfl
theorem v_56_1 (xs : Option (List Int32)) (n : Nat) (b : Bool) (d : Nat) (ml : List Value) (t : T) (Q : Option Value → T → Prop) (u : Int32) (r : List Value) : vc xs zH_56 (n + 1) b d 56 1 ml (.int u :: r) t Q = (if u < 0 then vc xs zH_56 n true d 56 14 ml r t Q else vc xs zH_56 n true d 56 4 ml r t Q) := by
  rw [vc_q (o := (21, 0, 14, 2, [])) (by decide +kernel)]; rfl
theorem v_56_4 (xs : Option (List Int32)) (n : Nat) (b : Bool) (d : Nat) (ml : List Value) (t : T) (Q : Option Value → T → Prop) (st : List Value) : vc xs zH_56 (n + 1) b d 56 4 ml st t Q = vgi ml 0 (fun v => vc xs zH_56 n true d 56 5 ml (.int v :: st) t Q) := by
  rw [vc_q (o := (1, 0, 0, 0, [])) (by decide +kernel)]; rfl
theorem v_56_5 (xs : Option (List Int32)) (n : Nat) (b : Bool) (d : Nat) (ml : List Value) (t : T) (Q : Option Value → T → Prop) (st : List Value) : vc xs zH_56 (n + 1) b d 56 5 ml st t Q = vc xs zH_56 n true d 56 7 ml (.int 6 :: st) t Q := by
  rw [vc_q (o := (0, 6, 1, 0, [])) (by decide +kernel)]; rfl
theorem v_56_7 (xs : Option (List Int32)) (n : Nat) (b : Bool) (d : Nat) (ml : List Value) (t : T) (Q : Option Value → T → Prop) (u v : Int32) (r : List Value) : vc xs zH_56 (n + 1) b d 56 7 ml (.int v :: .int u :: r) t Q = (if u < v then vc xs zH_56 n true d 56 10 ml r t Q else vc xs zH_56 n true d 56 14 ml r t Q) := by
  rw [vc_q (o := (20, 0, 14, 3, [])) (by decide +kernel)]; rfl
theorem v_56_10 (xs : Option (List Int32)) (n : Nat) (b : Bool) (d : Nat) (ml : List Value) (t : T) (Q : Option Value → T → Prop) (st : List Value) : vc xs zH_56 (n + 1) b d 56 10 ml st t Q = vc xs zH_56 n true d 56 11 ml (.int 1 :: st) t Q := by
  rw [vc_q (o := (0, 1, 0, 0, [])) (by decide +kernel)]; rfl
theorem v_56_11 (xs : Option (List Int32)) (n : Nat) (b : Bool) (d : Nat) (ml : List Value) (t : T) (Q : Option Value → T → Prop) (st : List Value) : vc xs zH_56 (n + 1) b d 56 11 ml st t Q = vc xs zH_56 n true d 56 15 ml st t Q := by
  rw [vc_q (o := (22, 0, 15, 0, [])) (by decide +kernel)]; rfl
theorem v_56_14 (xs : Option (List Int32)) (n : Nat) (b : Bool) (d : Nat) (ml : List Value) (t : T) (Q : Option Value → T → Prop) (st : List Value) : vc xs zH_56 (n + 1) b d 56 14 ml st t Q = vc xs zH_56 n true d 56 15 ml (.int 0 :: st) t Q := by
  rw [vc_q (o := (0, 0, 0, 0, [])) (by decide +kernel)]; rfl
theorem v_56_15 (xs : Option (List Int32)) (n : Nat) (b : Bool) (d : Nat) (ml : List Value) (t : T) (Q : Option Value → T → Prop) (v : Int32) : vc xs zH_56 (n + 1) b d 56 15 ml [.int v] t Q = ((v = 0 ∨ v = 1) ∧ Q (some (.int v)) t) := by
  rw [vc_q (o := (41, 0, 0, 0, [])) (by decide +kernel)]; rfl
def zH_57 : List Nat := []
theorem v_57_0 (xs : Option (List Int32)) (n : Nat) (b : Bool) (d : Nat) (ml : List Value) (t : T) (Q : Option Value → T → Prop) (st : List Value) : vc xs zH_57 (n + 1) b d 57 0 ml st t Q = vgi ml 1 (fun v => vc xs zH_57 n true d 57 1 ml (.int v :: st) t Q) := by
  rw [vc_q (o := (1, 0, 1, 0, [])) (by decide +kernel)]; rfl
theorem v_57_1 (xs : Option (List Int32)) (n : Nat) (b : Bool) (d : Nat) (ml : List Value) (t : T) (Q : Option Value → T → Prop) (u : Int32) (r : List Value) : vc xs zH_57 (n + 1) b d 57 1 ml (.int u :: r) t Q = vsw (fun p => vc xs zH_57 n true d 57 p ml r t Q) u [(0, 52), (1, 67), (2, 109), (3, 130), (4, 137), (5, 137), (6, 161), (7, 161), (8, 183)] 222 := by
  rw [vc_q (o := (23, 0, 222, 0, [(0, 52), (1, 67), (2, 109), (3, 130), (4, 137), (5, 137), (6, 161), (7, 161), (8, 183)])) (by decide +kernel)]; rfl
theorem v_57_52 (xs : Option (List Int32)) (n : Nat) (b : Bool) (d : Nat) (ml : List Value) (t : T) (Q : Option Value → T → Prop) (st : List Value) : vc xs zH_57 (n + 1) b d 57 52 ml st t Q = vgi ml 2 (fun v => vc xs zH_57 n true d 57 53 ml (.int v :: st) t Q) := by
  rw [vc_q (o := (1, 0, 2, 0, [])) (by decide +kernel)]; rfl
theorem v_57_53 (xs : Option (List Int32)) (n : Nat) (b : Bool) (d : Nat) (ml : List Value) (t : T) (Q : Option Value → T → Prop) (st : List Value) : vc xs zH_57 (n + 1) b d 57 53 ml st t Q = vc xs zH_57 n true d 57 54 ml (.int 0 :: st) t Q := by
  rw [vc_q (o := (0, 0, 0, 0, [])) (by decide +kernel)]; rfl
theorem v_57_54 (xs : Option (List Int32)) (n : Nat) (b : Bool) (d : Nat) (ml : List Value) (t : T) (Q : Option Value → T → Prop) (st : List Value) : vc xs zH_57 (n + 1) b d 57 54 ml st t Q = vc xs zH_57 n true d 57 55 ml (.int 2 :: st) t Q := by
  rw [vc_q (o := (0, 2, 0, 0, [])) (by decide +kernel)]; rfl
theorem v_57_55 (xs : Option (List Int32)) (n : Nat) (b : Bool) (d : Nat) (ml : List Value) (t : T) (Q : Option Value → T → Prop) (st : List Value) : vc xs zH_57 (n + 1) b d 57 55 ml st t Q = (st.all zc1 = true ∧ vtk 3 st [] (fun as rest => rest.length ≤ 8 ∧ twc d 37 as t (fun r t' => vc xs zH_57 n true d 57 58 ml (r.toList ++ rest) t' Q))) := by
  rw [vc_q (o := (37, 0, 37, 3, [])) (by decide +kernel)]; rfl
theorem v_57_58 (xs : Option (List Int32)) (n : Nat) (b : Bool) (d : Nat) (ml : List Value) (t : T) (Q : Option Value → T → Prop) (u : Int32) (r : List Value) : vc xs zH_57 (n + 1) b d 57 58 ml (.int u :: r) t Q = (if u = 0 then vc xs zH_57 n true d 57 61 ml r t Q else vc xs zH_57 n true d 57 65 ml r t Q) := by
  rw [vc_q (o := (21, 0, 65, 1, [])) (by decide +kernel)]; rfl
theorem v_57_61 (xs : Option (List Int32)) (n : Nat) (b : Bool) (d : Nat) (ml : List Value) (t : T) (Q : Option Value → T → Prop) (st : List Value) : vc xs zH_57 (n + 1) b d 57 61 ml st t Q = vc xs zH_57 n true d 57 62 ml (.int 1 :: st) t Q := by
  rw [vc_q (o := (0, 1, 0, 0, [])) (by decide +kernel)]; rfl
theorem v_57_62 (xs : Option (List Int32)) (n : Nat) (b : Bool) (d : Nat) (ml : List Value) (t : T) (Q : Option Value → T → Prop) (st : List Value) : vc xs zH_57 (n + 1) b d 57 62 ml st t Q = vc xs zH_57 n true d 57 66 ml st t Q := by
  rw [vc_q (o := (22, 0, 66, 0, [])) (by decide +kernel)]; rfl
theorem v_57_65 (xs : Option (List Int32)) (n : Nat) (b : Bool) (d : Nat) (ml : List Value) (t : T) (Q : Option Value → T → Prop) (st : List Value) : vc xs zH_57 (n + 1) b d 57 65 ml st t Q = vc xs zH_57 n true d 57 66 ml (.int 0 :: st) t Q := by
  rw [vc_q (o := (0, 0, 0, 0, [])) (by decide +kernel)]; rfl
theorem v_57_66 (xs : Option (List Int32)) (n : Nat) (b : Bool) (d : Nat) (ml : List Value) (t : T) (Q : Option Value → T → Prop) (v : Int32) : vc xs zH_57 (n + 1) b d 57 66 ml [.int v] t Q = ((v = 0 ∨ v = 1) ∧ Q (some (.int v)) t) := by
  rw [vc_q (o := (41, 0, 0, 0, [])) (by decide +kernel)]; rfl
theorem v_57_67 (xs : Option (List Int32)) (n : Nat) (b : Bool) (d : Nat) (ml : List Value) (t : T) (Q : Option Value → T → Prop) (st : List Value) : vc xs zH_57 (n + 1) b d 57 67 ml st t Q = vgi ml 2 (fun v => vc xs zH_57 n true d 57 68 ml (.int v :: st) t Q) := by
  rw [vc_q (o := (1, 0, 2, 0, [])) (by decide +kernel)]; rfl
theorem v_57_68 (xs : Option (List Int32)) (n : Nat) (b : Bool) (d : Nat) (ml : List Value) (t : T) (Q : Option Value → T → Prop) (st : List Value) : vc xs zH_57 (n + 1) b d 57 68 ml st t Q = vc xs zH_57 n true d 57 69 ml (.int 0 :: st) t Q := by
  rw [vc_q (o := (0, 0, 0, 0, [])) (by decide +kernel)]; rfl
theorem v_57_69 (xs : Option (List Int32)) (n : Nat) (b : Bool) (d : Nat) (ml : List Value) (t : T) (Q : Option Value → T → Prop) (st : List Value) : vc xs zH_57 (n + 1) b d 57 69 ml st t Q = vc xs zH_57 n true d 57 71 ml (.int 7 :: st) t Q := by
  rw [vc_q (o := (0, 7, 1, 0, [])) (by decide +kernel)]; rfl
theorem v_57_71 (xs : Option (List Int32)) (n : Nat) (b : Bool) (d : Nat) (ml : List Value) (t : T) (Q : Option Value → T → Prop) (st : List Value) : vc xs zH_57 (n + 1) b d 57 71 ml st t Q = (st.all zc1 = true ∧ vtk 3 st [] (fun as rest => rest.length ≤ 8 ∧ twc d 37 as t (fun r t' => vc xs zH_57 n true d 57 74 ml (r.toList ++ rest) t' Q))) := by
  rw [vc_q (o := (37, 0, 37, 3, [])) (by decide +kernel)]; rfl
theorem v_57_74 (xs : Option (List Int32)) (n : Nat) (b : Bool) (d : Nat) (ml : List Value) (t : T) (Q : Option Value → T → Prop) (u : Int32) (r : List Value) : vc xs zH_57 (n + 1) b d 57 74 ml (.int u :: r) t Q = (if u = 0 then vc xs zH_57 n true d 57 77 ml r t Q else vc xs zH_57 n true d 57 107 ml r t Q) := by
  rw [vc_q (o := (21, 0, 107, 1, [])) (by decide +kernel)]; rfl
theorem v_57_77 (xs : Option (List Int32)) (n : Nat) (b : Bool) (d : Nat) (ml : List Value) (t : T) (Q : Option Value → T → Prop) (st : List Value) : vc xs zH_57 (n + 1) b d 57 77 ml st t Q = vgi ml 2 (fun v => vc xs zH_57 n true d 57 78 ml (.int v :: st) t Q) := by
  rw [vc_q (o := (1, 0, 2, 0, [])) (by decide +kernel)]; rfl
theorem v_57_78 (xs : Option (List Int32)) (n : Nat) (b : Bool) (d : Nat) (ml : List Value) (t : T) (Q : Option Value → T → Prop) (st : List Value) : vc xs zH_57 (n + 1) b d 57 78 ml st t Q = vc xs zH_57 n true d 57 79 ml (.int 2 :: st) t Q := by
  rw [vc_q (o := (0, 2, 0, 0, [])) (by decide +kernel)]; rfl
theorem v_57_79 (xs : Option (List Int32)) (n : Nat) (b : Bool) (d : Nat) (ml : List Value) (t : T) (Q : Option Value → T → Prop) (u v : Int32) (r : List Value) : vc xs zH_57 (n + 1) b d 57 79 ml (.int v :: .int u :: r) t Q = (if u < v then vc xs zH_57 n true d 57 103 ml r t Q else vc xs zH_57 n true d 57 82 ml r t Q) := by
  rw [vc_q (o := (20, 0, 103, 2, [])) (by decide +kernel)]; rfl
theorem v_57_82 (xs : Option (List Int32)) (n : Nat) (b : Bool) (d : Nat) (ml : List Value) (t : T) (Q : Option Value → T → Prop) (st : List Value) : vc xs zH_57 (n + 1) b d 57 82 ml st t Q = vgi ml 3 (fun v => vc xs zH_57 n true d 57 83 ml (.int v :: st) t Q) := by
  rw [vc_q (o := (1, 0, 3, 0, [])) (by decide +kernel)]; rfl
theorem v_57_83 (xs : Option (List Int32)) (n : Nat) (b : Bool) (d : Nat) (ml : List Value) (t : T) (Q : Option Value → T → Prop) (st : List Value) : vc xs zH_57 (n + 1) b d 57 83 ml st t Q = (st.all zc1 = true ∧ vtk 1 st [] (fun as rest => rest.length ≤ 8 ∧ twc d 56 as t (fun r t' => vc xs zH_57 n true d 57 86 ml (r.toList ++ rest) t' Q))) := by
  rw [vc_q (o := (37, 0, 56, 1, [])) (by decide +kernel)]; rfl
theorem v_57_86 (xs : Option (List Int32)) (n : Nat) (b : Bool) (d : Nat) (ml : List Value) (t : T) (Q : Option Value → T → Prop) (u : Int32) (r : List Value) : vc xs zH_57 (n + 1) b d 57 86 ml (.int u :: r) t Q = (if u = 0 then vc xs zH_57 n true d 57 107 ml r t Q else vc xs zH_57 n true d 57 89 ml r t Q) := by
  rw [vc_q (o := (21, 0, 107, 0, [])) (by decide +kernel)]; rfl
theorem v_57_89 (xs : Option (List Int32)) (n : Nat) (b : Bool) (d : Nat) (ml : List Value) (t : T) (Q : Option Value → T → Prop) (st : List Value) : vc xs zH_57 (n + 1) b d 57 89 ml st t Q = vgi ml 2 (fun v => vc xs zH_57 n true d 57 90 ml (.int v :: st) t Q) := by
  rw [vc_q (o := (1, 0, 2, 0, [])) (by decide +kernel)]; rfl
theorem v_57_90 (xs : Option (List Int32)) (n : Nat) (b : Bool) (d : Nat) (ml : List Value) (t : T) (Q : Option Value → T → Prop) (st : List Value) : vc xs zH_57 (n + 1) b d 57 90 ml st t Q = vc xs zH_57 n true d 57 92 ml (.int 6 :: st) t Q := by
  rw [vc_q (o := (0, 6, 1, 0, [])) (by decide +kernel)]; rfl
theorem v_57_92 (xs : Option (List Int32)) (n : Nat) (b : Bool) (d : Nat) (ml : List Value) (t : T) (Q : Option Value → T → Prop) (u v : Int32) (r : List Value) : vc xs zH_57 (n + 1) b d 57 92 ml (.int v :: .int u :: r) t Q = (if u < v then vc xs zH_57 n true d 57 103 ml r t Q else vc xs zH_57 n true d 57 95 ml r t Q) := by
  rw [vc_q (o := (20, 0, 103, 2, [])) (by decide +kernel)]; rfl
theorem v_57_95 (xs : Option (List Int32)) (n : Nat) (b : Bool) (d : Nat) (ml : List Value) (t : T) (Q : Option Value → T → Prop) (st : List Value) : vc xs zH_57 (n + 1) b d 57 95 ml st t Q = vgi ml 4 (fun v => vc xs zH_57 n true d 57 97 ml (.int v :: st) t Q) := by
  rw [vc_q (o := (1, 0, 4, 1, [])) (by decide +kernel)]; rfl
theorem v_57_97 (xs : Option (List Int32)) (n : Nat) (b : Bool) (d : Nat) (ml : List Value) (t : T) (Q : Option Value → T → Prop) (st : List Value) : vc xs zH_57 (n + 1) b d 57 97 ml st t Q = (st.all zc1 = true ∧ vtk 1 st [] (fun as rest => rest.length ≤ 8 ∧ twc d 56 as t (fun r t' => vc xs zH_57 n true d 57 100 ml (r.toList ++ rest) t' Q))) := by
  rw [vc_q (o := (37, 0, 56, 1, [])) (by decide +kernel)]; rfl
theorem v_57_100 (xs : Option (List Int32)) (n : Nat) (b : Bool) (d : Nat) (ml : List Value) (t : T) (Q : Option Value → T → Prop) (u : Int32) (r : List Value) : vc xs zH_57 (n + 1) b d 57 100 ml (.int u :: r) t Q = (if u = 0 then vc xs zH_57 n true d 57 107 ml r t Q else vc xs zH_57 n true d 57 103 ml r t Q) := by
  rw [vc_q (o := (21, 0, 107, 0, [])) (by decide +kernel)]; rfl
theorem v_57_103 (xs : Option (List Int32)) (n : Nat) (b : Bool) (d : Nat) (ml : List Value) (t : T) (Q : Option Value → T → Prop) (st : List Value) : vc xs zH_57 (n + 1) b d 57 103 ml st t Q = vc xs zH_57 n true d 57 104 ml (.int 1 :: st) t Q := by
  rw [vc_q (o := (0, 1, 0, 0, [])) (by decide +kernel)]; rfl
theorem v_57_104 (xs : Option (List Int32)) (n : Nat) (b : Bool) (d : Nat) (ml : List Value) (t : T) (Q : Option Value → T → Prop) (st : List Value) : vc xs zH_57 (n + 1) b d 57 104 ml st t Q = vc xs zH_57 n true d 57 108 ml st t Q := by
  rw [vc_q (o := (22, 0, 108, 0, [])) (by decide +kernel)]; rfl
theorem v_57_107 (xs : Option (List Int32)) (n : Nat) (b : Bool) (d : Nat) (ml : List Value) (t : T) (Q : Option Value → T → Prop) (st : List Value) : vc xs zH_57 (n + 1) b d 57 107 ml st t Q = vc xs zH_57 n true d 57 108 ml (.int 0 :: st) t Q := by
  rw [vc_q (o := (0, 0, 0, 0, [])) (by decide +kernel)]; rfl
theorem v_57_108 (xs : Option (List Int32)) (n : Nat) (b : Bool) (d : Nat) (ml : List Value) (t : T) (Q : Option Value → T → Prop) (v : Int32) : vc xs zH_57 (n + 1) b d 57 108 ml [.int v] t Q = ((v = 0 ∨ v = 1) ∧ Q (some (.int v)) t) := by
  rw [vc_q (o := (41, 0, 0, 0, [])) (by decide +kernel)]; rfl
theorem v_57_109 (xs : Option (List Int32)) (n : Nat) (b : Bool) (d : Nat) (ml : List Value) (t : T) (Q : Option Value → T → Prop) (st : List Value) : vc xs zH_57 (n + 1) b d 57 109 ml st t Q = vgi ml 3 (fun v => vc xs zH_57 n true d 57 110 ml (.int v :: st) t Q) := by
  rw [vc_q (o := (1, 0, 3, 0, [])) (by decide +kernel)]; rfl
theorem v_57_110 (xs : Option (List Int32)) (n : Nat) (b : Bool) (d : Nat) (ml : List Value) (t : T) (Q : Option Value → T → Prop) (st : List Value) : vc xs zH_57 (n + 1) b d 57 110 ml st t Q = (st.all zc1 = true ∧ vtk 1 st [] (fun as rest => rest.length ≤ 8 ∧ twc d 56 as t (fun r t' => vc xs zH_57 n true d 57 113 ml (r.toList ++ rest) t' Q))) := by
  rw [vc_q (o := (37, 0, 56, 1, [])) (by decide +kernel)]; rfl
theorem v_57_113 (xs : Option (List Int32)) (n : Nat) (b : Bool) (d : Nat) (ml : List Value) (t : T) (Q : Option Value → T → Prop) (u : Int32) (r : List Value) : vc xs zH_57 (n + 1) b d 57 113 ml (.int u :: r) t Q = (if u = 0 then vc xs zH_57 n true d 57 128 ml r t Q else vc xs zH_57 n true d 57 116 ml r t Q) := by
  rw [vc_q (o := (21, 0, 128, 0, [])) (by decide +kernel)]; rfl
theorem v_57_116 (xs : Option (List Int32)) (n : Nat) (b : Bool) (d : Nat) (ml : List Value) (t : T) (Q : Option Value → T → Prop) (st : List Value) : vc xs zH_57 (n + 1) b d 57 116 ml st t Q = vgi ml 4 (fun v => vc xs zH_57 n true d 57 118 ml (.int v :: st) t Q) := by
  rw [vc_q (o := (1, 0, 4, 1, [])) (by decide +kernel)]; rfl
theorem v_57_118 (xs : Option (List Int32)) (n : Nat) (b : Bool) (d : Nat) (ml : List Value) (t : T) (Q : Option Value → T → Prop) (st : List Value) : vc xs zH_57 (n + 1) b d 57 118 ml st t Q = (st.all zc1 = true ∧ vtk 1 st [] (fun as rest => rest.length ≤ 8 ∧ twc d 56 as t (fun r t' => vc xs zH_57 n true d 57 121 ml (r.toList ++ rest) t' Q))) := by
  rw [vc_q (o := (37, 0, 56, 1, [])) (by decide +kernel)]; rfl
theorem v_57_121 (xs : Option (List Int32)) (n : Nat) (b : Bool) (d : Nat) (ml : List Value) (t : T) (Q : Option Value → T → Prop) (u : Int32) (r : List Value) : vc xs zH_57 (n + 1) b d 57 121 ml (.int u :: r) t Q = (if u = 0 then vc xs zH_57 n true d 57 128 ml r t Q else vc xs zH_57 n true d 57 124 ml r t Q) := by
  rw [vc_q (o := (21, 0, 128, 0, [])) (by decide +kernel)]; rfl
theorem v_57_124 (xs : Option (List Int32)) (n : Nat) (b : Bool) (d : Nat) (ml : List Value) (t : T) (Q : Option Value → T → Prop) (st : List Value) : vc xs zH_57 (n + 1) b d 57 124 ml st t Q = vc xs zH_57 n true d 57 125 ml (.int 1 :: st) t Q := by
  rw [vc_q (o := (0, 1, 0, 0, [])) (by decide +kernel)]; rfl
theorem v_57_125 (xs : Option (List Int32)) (n : Nat) (b : Bool) (d : Nat) (ml : List Value) (t : T) (Q : Option Value → T → Prop) (st : List Value) : vc xs zH_57 (n + 1) b d 57 125 ml st t Q = vc xs zH_57 n true d 57 129 ml st t Q := by
  rw [vc_q (o := (22, 0, 129, 0, [])) (by decide +kernel)]; rfl
theorem v_57_128 (xs : Option (List Int32)) (n : Nat) (b : Bool) (d : Nat) (ml : List Value) (t : T) (Q : Option Value → T → Prop) (st : List Value) : vc xs zH_57 (n + 1) b d 57 128 ml st t Q = vc xs zH_57 n true d 57 129 ml (.int 0 :: st) t Q := by
  rw [vc_q (o := (0, 0, 0, 0, [])) (by decide +kernel)]; rfl
theorem v_57_129 (xs : Option (List Int32)) (n : Nat) (b : Bool) (d : Nat) (ml : List Value) (t : T) (Q : Option Value → T → Prop) (v : Int32) : vc xs zH_57 (n + 1) b d 57 129 ml [.int v] t Q = ((v = 0 ∨ v = 1) ∧ Q (some (.int v)) t) := by
  rw [vc_q (o := (41, 0, 0, 0, [])) (by decide +kernel)]; rfl
theorem v_57_130 (xs : Option (List Int32)) (n : Nat) (b : Bool) (d : Nat) (ml : List Value) (t : T) (Q : Option Value → T → Prop) (st : List Value) : vc xs zH_57 (n + 1) b d 57 130 ml st t Q = vga ml 0 (fun v => vc xs zH_57 n true d 57 131 ml (.ref v :: st) t Q) := by
  rw [vc_q (o := (2, 0, 0, 0, [])) (by decide +kernel)]; rfl
theorem v_57_131 (xs : Option (List Int32)) (n : Nat) (b : Bool) (d : Nat) (ml : List Value) (t : T) (Q : Option Value → T → Prop) (st : List Value) : vc xs zH_57 (n + 1) b d 57 131 ml st t Q = vgi ml 4 (fun v => vc xs zH_57 n true d 57 133 ml (.int v :: st) t Q) := by
  rw [vc_q (o := (1, 0, 4, 1, [])) (by decide +kernel)]; rfl
theorem v_57_133 (xs : Option (List Int32)) (n : Nat) (b : Bool) (d : Nat) (ml : List Value) (t : T) (Q : Option Value → T → Prop) (st : List Value) : vc xs zH_57 (n + 1) b d 57 133 ml st t Q = (st.all zc1 = true ∧ vtk 2 st [] (fun as rest => rest.length ≤ 8 ∧ vrc as 12 (twc d 55 as t (fun r t' => vc xs zH_57 n true d 57 136 ml (r.toList ++ rest) t' Q)))) := by
  rw [vc_q (o := (36, 0, 55, 1, [(0, 12)])) (by decide +kernel)]; rfl
theorem v_57_136 (xs : Option (List Int32)) (n : Nat) (b : Bool) (d : Nat) (ml : List Value) (t : T) (Q : Option Value → T → Prop) (v : Int32) : vc xs zH_57 (n + 1) b d 57 136 ml [.int v] t Q = ((v = 0 ∨ v = 1) ∧ Q (some (.int v)) t) := by
  rw [vc_q (o := (41, 0, 0, 0, [])) (by decide +kernel)]; rfl
theorem v_57_137 (xs : Option (List Int32)) (n : Nat) (b : Bool) (d : Nat) (ml : List Value) (t : T) (Q : Option Value → T → Prop) (st : List Value) : vc xs zH_57 (n + 1) b d 57 137 ml st t Q = vga ml 0 (fun v => vc xs zH_57 n true d 57 138 ml (.ref v :: st) t Q) := by
  rw [vc_q (o := (2, 0, 0, 0, [])) (by decide +kernel)]; rfl
theorem v_57_138 (xs : Option (List Int32)) (n : Nat) (b : Bool) (d : Nat) (ml : List Value) (t : T) (Q : Option Value → T → Prop) (st : List Value) : vc xs zH_57 (n + 1) b d 57 138 ml st t Q = vgi ml 4 (fun v => vc xs zH_57 n true d 57 140 ml (.int v :: st) t Q) := by
  rw [vc_q (o := (1, 0, 4, 1, [])) (by decide +kernel)]; rfl
theorem v_57_140 (xs : Option (List Int32)) (n : Nat) (b : Bool) (d : Nat) (ml : List Value) (t : T) (Q : Option Value → T → Prop) (st : List Value) : vc xs zH_57 (n + 1) b d 57 140 ml st t Q = (st.all zc1 = true ∧ vtk 2 st [] (fun as rest => rest.length ≤ 8 ∧ vrc as 12 (twc d 55 as t (fun r t' => vc xs zH_57 n true d 57 143 ml (r.toList ++ rest) t' Q)))) := by
  rw [vc_q (o := (36, 0, 55, 1, [(0, 12)])) (by decide +kernel)]; rfl
theorem v_57_143 (xs : Option (List Int32)) (n : Nat) (b : Bool) (d : Nat) (ml : List Value) (t : T) (Q : Option Value → T → Prop) (u : Int32) (r : List Value) : vc xs zH_57 (n + 1) b d 57 143 ml (.int u :: r) t Q = (if u = 0 then vc xs zH_57 n true d 57 159 ml r t Q else vc xs zH_57 n true d 57 146 ml r t Q) := by
  rw [vc_q (o := (21, 0, 159, 0, [])) (by decide +kernel)]; rfl
theorem v_57_146 (xs : Option (List Int32)) (n : Nat) (b : Bool) (d : Nat) (ml : List Value) (t : T) (Q : Option Value → T → Prop) (st : List Value) : vc xs zH_57 (n + 1) b d 57 146 ml st t Q = vga ml 0 (fun v => vc xs zH_57 n true d 57 147 ml (.ref v :: st) t Q) := by
  rw [vc_q (o := (2, 0, 0, 0, [])) (by decide +kernel)]; rfl
theorem v_57_147 (xs : Option (List Int32)) (n : Nat) (b : Bool) (d : Nat) (ml : List Value) (t : T) (Q : Option Value → T → Prop) (st : List Value) : vc xs zH_57 (n + 1) b d 57 147 ml st t Q = vgi ml 5 (fun v => vc xs zH_57 n true d 57 149 ml (.int v :: st) t Q) := by
  rw [vc_q (o := (1, 0, 5, 1, [])) (by decide +kernel)]; rfl
theorem v_57_149 (xs : Option (List Int32)) (n : Nat) (b : Bool) (d : Nat) (ml : List Value) (t : T) (Q : Option Value → T → Prop) (st : List Value) : vc xs zH_57 (n + 1) b d 57 149 ml st t Q = (st.all zc1 = true ∧ vtk 2 st [] (fun as rest => rest.length ≤ 8 ∧ vrc as 12 (twc d 55 as t (fun r t' => vc xs zH_57 n true d 57 152 ml (r.toList ++ rest) t' Q)))) := by
  rw [vc_q (o := (36, 0, 55, 1, [(0, 12)])) (by decide +kernel)]; rfl
theorem v_57_152 (xs : Option (List Int32)) (n : Nat) (b : Bool) (d : Nat) (ml : List Value) (t : T) (Q : Option Value → T → Prop) (u : Int32) (r : List Value) : vc xs zH_57 (n + 1) b d 57 152 ml (.int u :: r) t Q = (if u = 0 then vc xs zH_57 n true d 57 159 ml r t Q else vc xs zH_57 n true d 57 155 ml r t Q) := by
  rw [vc_q (o := (21, 0, 159, 0, [])) (by decide +kernel)]; rfl
theorem v_57_155 (xs : Option (List Int32)) (n : Nat) (b : Bool) (d : Nat) (ml : List Value) (t : T) (Q : Option Value → T → Prop) (st : List Value) : vc xs zH_57 (n + 1) b d 57 155 ml st t Q = vc xs zH_57 n true d 57 156 ml (.int 1 :: st) t Q := by
  rw [vc_q (o := (0, 1, 0, 0, [])) (by decide +kernel)]; rfl
theorem v_57_156 (xs : Option (List Int32)) (n : Nat) (b : Bool) (d : Nat) (ml : List Value) (t : T) (Q : Option Value → T → Prop) (st : List Value) : vc xs zH_57 (n + 1) b d 57 156 ml st t Q = vc xs zH_57 n true d 57 160 ml st t Q := by
  rw [vc_q (o := (22, 0, 160, 0, [])) (by decide +kernel)]; rfl
theorem v_57_159 (xs : Option (List Int32)) (n : Nat) (b : Bool) (d : Nat) (ml : List Value) (t : T) (Q : Option Value → T → Prop) (st : List Value) : vc xs zH_57 (n + 1) b d 57 159 ml st t Q = vc xs zH_57 n true d 57 160 ml (.int 0 :: st) t Q := by
  rw [vc_q (o := (0, 0, 0, 0, [])) (by decide +kernel)]; rfl
theorem v_57_160 (xs : Option (List Int32)) (n : Nat) (b : Bool) (d : Nat) (ml : List Value) (t : T) (Q : Option Value → T → Prop) (v : Int32) : vc xs zH_57 (n + 1) b d 57 160 ml [.int v] t Q = ((v = 0 ∨ v = 1) ∧ Q (some (.int v)) t) := by
  rw [vc_q (o := (41, 0, 0, 0, [])) (by decide +kernel)]; rfl
theorem v_57_161 (xs : Option (List Int32)) (n : Nat) (b : Bool) (d : Nat) (ml : List Value) (t : T) (Q : Option Value → T → Prop) (st : List Value) : vc xs zH_57 (n + 1) b d 57 161 ml st t Q = vgi ml 2 (fun v => vc xs zH_57 n true d 57 162 ml (.int v :: st) t Q) := by
  rw [vc_q (o := (1, 0, 2, 0, [])) (by decide +kernel)]; rfl
theorem v_57_162 (xs : Option (List Int32)) (n : Nat) (b : Bool) (d : Nat) (ml : List Value) (t : T) (Q : Option Value → T → Prop) (st : List Value) : vc xs zH_57 (n + 1) b d 57 162 ml st t Q = (st.all zc1 = true ∧ vtk 1 st [] (fun as rest => rest.length ≤ 8 ∧ twc d 56 as t (fun r t' => vc xs zH_57 n true d 57 165 ml (r.toList ++ rest) t' Q))) := by
  rw [vc_q (o := (37, 0, 56, 1, [])) (by decide +kernel)]; rfl
theorem v_57_165 (xs : Option (List Int32)) (n : Nat) (b : Bool) (d : Nat) (ml : List Value) (t : T) (Q : Option Value → T → Prop) (u : Int32) (r : List Value) : vc xs zH_57 (n + 1) b d 57 165 ml (.int u :: r) t Q = (if u = 0 then vc xs zH_57 n true d 57 181 ml r t Q else vc xs zH_57 n true d 57 168 ml r t Q) := by
  rw [vc_q (o := (21, 0, 181, 0, [])) (by decide +kernel)]; rfl
theorem v_57_168 (xs : Option (List Int32)) (n : Nat) (b : Bool) (d : Nat) (ml : List Value) (t : T) (Q : Option Value → T → Prop) (st : List Value) : vc xs zH_57 (n + 1) b d 57 168 ml st t Q = vga ml 0 (fun v => vc xs zH_57 n true d 57 169 ml (.ref v :: st) t Q) := by
  rw [vc_q (o := (2, 0, 0, 0, [])) (by decide +kernel)]; rfl
theorem v_57_169 (xs : Option (List Int32)) (n : Nat) (b : Bool) (d : Nat) (ml : List Value) (t : T) (Q : Option Value → T → Prop) (st : List Value) : vc xs zH_57 (n + 1) b d 57 169 ml st t Q = vgi ml 4 (fun v => vc xs zH_57 n true d 57 171 ml (.int v :: st) t Q) := by
  rw [vc_q (o := (1, 0, 4, 1, [])) (by decide +kernel)]; rfl
theorem v_57_171 (xs : Option (List Int32)) (n : Nat) (b : Bool) (d : Nat) (ml : List Value) (t : T) (Q : Option Value → T → Prop) (st : List Value) : vc xs zH_57 (n + 1) b d 57 171 ml st t Q = (st.all zc1 = true ∧ vtk 2 st [] (fun as rest => rest.length ≤ 8 ∧ vrc as 12 (twc d 55 as t (fun r t' => vc xs zH_57 n true d 57 174 ml (r.toList ++ rest) t' Q)))) := by
  rw [vc_q (o := (36, 0, 55, 1, [(0, 12)])) (by decide +kernel)]; rfl
theorem v_57_174 (xs : Option (List Int32)) (n : Nat) (b : Bool) (d : Nat) (ml : List Value) (t : T) (Q : Option Value → T → Prop) (u : Int32) (r : List Value) : vc xs zH_57 (n + 1) b d 57 174 ml (.int u :: r) t Q = (if u = 0 then vc xs zH_57 n true d 57 181 ml r t Q else vc xs zH_57 n true d 57 177 ml r t Q) := by
  rw [vc_q (o := (21, 0, 181, 0, [])) (by decide +kernel)]; rfl
theorem v_57_177 (xs : Option (List Int32)) (n : Nat) (b : Bool) (d : Nat) (ml : List Value) (t : T) (Q : Option Value → T → Prop) (st : List Value) : vc xs zH_57 (n + 1) b d 57 177 ml st t Q = vc xs zH_57 n true d 57 178 ml (.int 1 :: st) t Q := by
  rw [vc_q (o := (0, 1, 0, 0, [])) (by decide +kernel)]; rfl
theorem v_57_178 (xs : Option (List Int32)) (n : Nat) (b : Bool) (d : Nat) (ml : List Value) (t : T) (Q : Option Value → T → Prop) (st : List Value) : vc xs zH_57 (n + 1) b d 57 178 ml st t Q = vc xs zH_57 n true d 57 182 ml st t Q := by
  rw [vc_q (o := (22, 0, 182, 0, [])) (by decide +kernel)]; rfl
theorem v_57_181 (xs : Option (List Int32)) (n : Nat) (b : Bool) (d : Nat) (ml : List Value) (t : T) (Q : Option Value → T → Prop) (st : List Value) : vc xs zH_57 (n + 1) b d 57 181 ml st t Q = vc xs zH_57 n true d 57 182 ml (.int 0 :: st) t Q := by
  rw [vc_q (o := (0, 0, 0, 0, [])) (by decide +kernel)]; rfl
theorem v_57_182 (xs : Option (List Int32)) (n : Nat) (b : Bool) (d : Nat) (ml : List Value) (t : T) (Q : Option Value → T → Prop) (v : Int32) : vc xs zH_57 (n + 1) b d 57 182 ml [.int v] t Q = ((v = 0 ∨ v = 1) ∧ Q (some (.int v)) t) := by
  rw [vc_q (o := (41, 0, 0, 0, [])) (by decide +kernel)]; rfl
theorem v_57_183 (xs : Option (List Int32)) (n : Nat) (b : Bool) (d : Nat) (ml : List Value) (t : T) (Q : Option Value → T → Prop) (st : List Value) : vc xs zH_57 (n + 1) b d 57 183 ml st t Q = vgi ml 2 (fun v => vc xs zH_57 n true d 57 184 ml (.int v :: st) t Q) := by
  rw [vc_q (o := (1, 0, 2, 0, [])) (by decide +kernel)]; rfl
theorem v_57_184 (xs : Option (List Int32)) (n : Nat) (b : Bool) (d : Nat) (ml : List Value) (t : T) (Q : Option Value → T → Prop) (st : List Value) : vc xs zH_57 (n + 1) b d 57 184 ml st t Q = (st.all zc1 = true ∧ vtk 1 st [] (fun as rest => rest.length ≤ 8 ∧ twc d 56 as t (fun r t' => vc xs zH_57 n true d 57 187 ml (r.toList ++ rest) t' Q))) := by
  rw [vc_q (o := (37, 0, 56, 1, [])) (by decide +kernel)]; rfl
theorem v_57_187 (xs : Option (List Int32)) (n : Nat) (b : Bool) (d : Nat) (ml : List Value) (t : T) (Q : Option Value → T → Prop) (u : Int32) (r : List Value) : vc xs zH_57 (n + 1) b d 57 187 ml (.int u :: r) t Q = (if u = 0 then vc xs zH_57 n true d 57 220 ml r t Q else vc xs zH_57 n true d 57 190 ml r t Q) := by
  rw [vc_q (o := (21, 0, 220, 0, [])) (by decide +kernel)]; rfl
theorem v_57_190 (xs : Option (List Int32)) (n : Nat) (b : Bool) (d : Nat) (ml : List Value) (t : T) (Q : Option Value → T → Prop) (st : List Value) : vc xs zH_57 (n + 1) b d 57 190 ml st t Q = vgi ml 3 (fun v => vc xs zH_57 n true d 57 191 ml (.int v :: st) t Q) := by
  rw [vc_q (o := (1, 0, 3, 0, [])) (by decide +kernel)]; rfl
theorem v_57_191 (xs : Option (List Int32)) (n : Nat) (b : Bool) (d : Nat) (ml : List Value) (t : T) (Q : Option Value → T → Prop) (st : List Value) : vc xs zH_57 (n + 1) b d 57 191 ml st t Q = (st.all zc1 = true ∧ vtk 1 st [] (fun as rest => rest.length ≤ 8 ∧ twc d 56 as t (fun r t' => vc xs zH_57 n true d 57 194 ml (r.toList ++ rest) t' Q))) := by
  rw [vc_q (o := (37, 0, 56, 1, [])) (by decide +kernel)]; rfl
theorem v_57_194 (xs : Option (List Int32)) (n : Nat) (b : Bool) (d : Nat) (ml : List Value) (t : T) (Q : Option Value → T → Prop) (u : Int32) (r : List Value) : vc xs zH_57 (n + 1) b d 57 194 ml (.int u :: r) t Q = (if u = 0 then vc xs zH_57 n true d 57 220 ml r t Q else vc xs zH_57 n true d 57 197 ml r t Q) := by
  rw [vc_q (o := (21, 0, 220, 0, [])) (by decide +kernel)]; rfl
theorem v_57_197 (xs : Option (List Int32)) (n : Nat) (b : Bool) (d : Nat) (ml : List Value) (t : T) (Q : Option Value → T → Prop) (st : List Value) : vc xs zH_57 (n + 1) b d 57 197 ml st t Q = vga ml 0 (fun v => vc xs zH_57 n true d 57 198 ml (.ref v :: st) t Q) := by
  rw [vc_q (o := (2, 0, 0, 0, [])) (by decide +kernel)]; rfl
theorem v_57_198 (xs : Option (List Int32)) (n : Nat) (b : Bool) (d : Nat) (ml : List Value) (t : T) (Q : Option Value → T → Prop) (st : List Value) : vc xs zH_57 (n + 1) b d 57 198 ml st t Q = vgi ml 4 (fun v => vc xs zH_57 n true d 57 200 ml (.int v :: st) t Q) := by
  rw [vc_q (o := (1, 0, 4, 1, [])) (by decide +kernel)]; rfl
theorem v_57_200 (xs : Option (List Int32)) (n : Nat) (b : Bool) (d : Nat) (ml : List Value) (t : T) (Q : Option Value → T → Prop) (st : List Value) : vc xs zH_57 (n + 1) b d 57 200 ml st t Q = (st.all zc1 = true ∧ vtk 2 st [] (fun as rest => rest.length ≤ 8 ∧ vrc as 12 (twc d 55 as t (fun r t' => vc xs zH_57 n true d 57 203 ml (r.toList ++ rest) t' Q)))) := by
  rw [vc_q (o := (36, 0, 55, 1, [(0, 12)])) (by decide +kernel)]; rfl
theorem v_57_203 (xs : Option (List Int32)) (n : Nat) (b : Bool) (d : Nat) (ml : List Value) (t : T) (Q : Option Value → T → Prop) (u : Int32) (r : List Value) : vc xs zH_57 (n + 1) b d 57 203 ml (.int u :: r) t Q = (if u = 0 then vc xs zH_57 n true d 57 220 ml r t Q else vc xs zH_57 n true d 57 206 ml r t Q) := by
  rw [vc_q (o := (21, 0, 220, 0, [])) (by decide +kernel)]; rfl
theorem v_57_206 (xs : Option (List Int32)) (n : Nat) (b : Bool) (d : Nat) (ml : List Value) (t : T) (Q : Option Value → T → Prop) (st : List Value) : vc xs zH_57 (n + 1) b d 57 206 ml st t Q = vga ml 0 (fun v => vc xs zH_57 n true d 57 207 ml (.ref v :: st) t Q) := by
  rw [vc_q (o := (2, 0, 0, 0, [])) (by decide +kernel)]; rfl
theorem v_57_207 (xs : Option (List Int32)) (n : Nat) (b : Bool) (d : Nat) (ml : List Value) (t : T) (Q : Option Value → T → Prop) (u : Nat) (r : List Value) : vc xs zH_57 (n + 1) b d 57 207 ml (.ref u :: r) t Q = (vtag u = 12 ∧ vc xs zH_57 n true d 57 210 ml (.ref (tref t u 9) :: r) t Q) := by
  rw [vc_q (o := (25, 0, 12, 9, [])) (by decide +kernel)]; rfl
theorem v_57_210 (xs : Option (List Int32)) (n : Nat) (b : Bool) (d : Nat) (ml : List Value) (t : T) (Q : Option Value → T → Prop) (st : List Value) : vc xs zH_57 (n + 1) b d 57 210 ml st t Q = vgi ml 4 (fun v => vc xs zH_57 n true d 57 212 ml (.int v :: st) t Q) := by
  rw [vc_q (o := (1, 0, 4, 1, [])) (by decide +kernel)]; rfl
theorem v_57_212 (xs : Option (List Int32)) (n : Nat) (b : Bool) (d : Nat) (ml : List Value) (t : T) (Q : Option Value → T → Prop) (v : Int32) (u : Nat) (r : List Value) : vc xs zH_57 (n + 1) b d 57 212 ml (.int v :: .ref u :: r) t Q = ((vtag u = 101 ∨ vtag u = 102) ∧ vinb v (vlen u) ∧ vc xs zH_57 n true d 57 213 ml (.int (t.1 u v.toNatClampNeg) :: r) t Q) := by
  rw [vc_q (o := (30, 0, 0, 0, [])) (by decide +kernel)]; rfl
theorem v_57_213 (xs : Option (List Int32)) (n : Nat) (b : Bool) (d : Nat) (ml : List Value) (t : T) (Q : Option Value → T → Prop) (u : Int32) (r : List Value) : vc xs zH_57 (n + 1) b d 57 213 ml (.int u :: r) t Q = (if u = 0 then vc xs zH_57 n true d 57 216 ml r t Q else vc xs zH_57 n true d 57 220 ml r t Q) := by
  rw [vc_q (o := (21, 0, 220, 1, [])) (by decide +kernel)]; rfl
theorem v_57_216 (xs : Option (List Int32)) (n : Nat) (b : Bool) (d : Nat) (ml : List Value) (t : T) (Q : Option Value → T → Prop) (st : List Value) : vc xs zH_57 (n + 1) b d 57 216 ml st t Q = vc xs zH_57 n true d 57 217 ml (.int 1 :: st) t Q := by
  rw [vc_q (o := (0, 1, 0, 0, [])) (by decide +kernel)]; rfl
theorem v_57_217 (xs : Option (List Int32)) (n : Nat) (b : Bool) (d : Nat) (ml : List Value) (t : T) (Q : Option Value → T → Prop) (st : List Value) : vc xs zH_57 (n + 1) b d 57 217 ml st t Q = vc xs zH_57 n true d 57 221 ml st t Q := by
  rw [vc_q (o := (22, 0, 221, 0, [])) (by decide +kernel)]; rfl
theorem v_57_220 (xs : Option (List Int32)) (n : Nat) (b : Bool) (d : Nat) (ml : List Value) (t : T) (Q : Option Value → T → Prop) (st : List Value) : vc xs zH_57 (n + 1) b d 57 220 ml st t Q = vc xs zH_57 n true d 57 221 ml (.int 0 :: st) t Q := by
  rw [vc_q (o := (0, 0, 0, 0, [])) (by decide +kernel)]; rfl
theorem v_57_221 (xs : Option (List Int32)) (n : Nat) (b : Bool) (d : Nat) (ml : List Value) (t : T) (Q : Option Value → T → Prop) (v : Int32) : vc xs zH_57 (n + 1) b d 57 221 ml [.int v] t Q = ((v = 0 ∨ v = 1) ∧ Q (some (.int v)) t) := by
  rw [vc_q (o := (41, 0, 0, 0, [])) (by decide +kernel)]; rfl
theorem v_57_222 (xs : Option (List Int32)) (n : Nat) (b : Bool) (d : Nat) (ml : List Value) (t : T) (Q : Option Value → T → Prop) (st : List Value) : vc xs zH_57 (n + 1) b d 57 222 ml st t Q = vc xs zH_57 n true d 57 223 ml (.int 0 :: st) t Q := by
  rw [vc_q (o := (0, 0, 0, 0, [])) (by decide +kernel)]; rfl
theorem v_57_223 (xs : Option (List Int32)) (n : Nat) (b : Bool) (d : Nat) (ml : List Value) (t : T) (Q : Option Value → T → Prop) (v : Int32) : vc xs zH_57 (n + 1) b d 57 223 ml [.int v] t Q = ((v = 0 ∨ v = 1) ∧ Q (some (.int v)) t) := by
  rw [vc_q (o := (41, 0, 0, 0, [])) (by decide +kernel)]; rfl
def zH_58 : List Nat := []
theorem v_58_0 (xs : Option (List Int32)) (n : Nat) (b : Bool) (d : Nat) (ml : List Value) (t : T) (Q : Option Value → T → Prop) (st : List Value) : vc xs zH_58 (n + 1) b d 58 0 ml st t Q = vgi ml 1 (fun v => vc xs zH_58 n true d 58 1 ml (.int v :: st) t Q) := by
  rw [vc_q (o := (1, 0, 1, 0, [])) (by decide +kernel)]; rfl
theorem v_58_1 (xs : Option (List Int32)) (n : Nat) (b : Bool) (d : Nat) (ml : List Value) (t : T) (Q : Option Value → T → Prop) (st : List Value) : vc xs zH_58 (n + 1) b d 58 1 ml st t Q = vc xs zH_58 n true d 58 2 ml (.int 3 :: st) t Q := by
  rw [vc_q (o := (0, 3, 0, 0, [])) (by decide +kernel)]; rfl
theorem v_58_2 (xs : Option (List Int32)) (n : Nat) (b : Bool) (d : Nat) (ml : List Value) (t : T) (Q : Option Value → T → Prop) (u v : Int32) (r : List Value) : vc xs zH_58 (n + 1) b d 58 2 ml (.int v :: .int u :: r) t Q = (if u < v then vc xs zH_58 n true d 58 5 ml r t Q else vc xs zH_58 n true d 58 9 ml r t Q) := by
  rw [vc_q (o := (20, 0, 9, 3, [])) (by decide +kernel)]; rfl
theorem v_58_5 (xs : Option (List Int32)) (n : Nat) (b : Bool) (d : Nat) (ml : List Value) (t : T) (Q : Option Value → T → Prop) (st : List Value) : vc xs zH_58 (n + 1) b d 58 5 ml st t Q = vc xs zH_58 n true d 58 6 ml (.int 0 :: st) t Q := by
  rw [vc_q (o := (0, 0, 0, 0, [])) (by decide +kernel)]; rfl
theorem v_58_6 (xs : Option (List Int32)) (n : Nat) (b : Bool) (d : Nat) (ml : List Value) (t : T) (Q : Option Value → T → Prop) (st : List Value) : vc xs zH_58 (n + 1) b d 58 6 ml st t Q = vc xs zH_58 n true d 58 60 ml st t Q := by
  rw [vc_q (o := (22, 0, 60, 0, [])) (by decide +kernel)]; rfl
theorem v_58_9 (xs : Option (List Int32)) (n : Nat) (b : Bool) (d : Nat) (ml : List Value) (t : T) (Q : Option Value → T → Prop) (st : List Value) : vc xs zH_58 (n + 1) b d 58 9 ml st t Q = vc xs zH_58 n true d 58 10 ml (.int 1 :: st) t Q := by
  rw [vc_q (o := (0, 1, 0, 0, [])) (by decide +kernel)]; rfl
theorem v_58_10 (xs : Option (List Int32)) (n : Nat) (b : Bool) (d : Nat) (ml : List Value) (t : T) (Q : Option Value → T → Prop) (st : List Value) : vc xs zH_58 (n + 1) b d 58 10 ml st t Q = vgi ml 1 (fun v => vc xs zH_58 n true d 58 11 ml (.int v :: st) t Q) := by
  rw [vc_q (o := (1, 0, 1, 0, [])) (by decide +kernel)]; rfl
theorem v_58_11 (xs : Option (List Int32)) (n : Nat) (b : Bool) (d : Nat) (ml : List Value) (t : T) (Q : Option Value → T → Prop) (st : List Value) : vc xs zH_58 (n + 1) b d 58 11 ml st t Q = vc xs zH_58 n true d 58 12 ml (.int 4 :: st) t Q := by
  rw [vc_q (o := (0, 4, 0, 0, [])) (by decide +kernel)]; rfl
theorem v_58_12 (xs : Option (List Int32)) (n : Nat) (b : Bool) (d : Nat) (ml : List Value) (t : T) (Q : Option Value → T → Prop) (u v : Int32) (r : List Value) : vc xs zH_58 (n + 1) b d 58 12 ml (.int v :: .int u :: r) t Q = (if u = v then vc xs zH_58 n true d 58 20 ml r t Q else vc xs zH_58 n true d 58 15 ml r t Q) := by
  rw [vc_q (o := (20, 0, 20, 0, [])) (by decide +kernel)]; rfl
theorem v_58_15 (xs : Option (List Int32)) (n : Nat) (b : Bool) (d : Nat) (ml : List Value) (t : T) (Q : Option Value → T → Prop) (st : List Value) : vc xs zH_58 (n + 1) b d 58 15 ml st t Q = vgi ml 1 (fun v => vc xs zH_58 n true d 58 16 ml (.int v :: st) t Q) := by
  rw [vc_q (o := (1, 0, 1, 0, [])) (by decide +kernel)]; rfl
theorem v_58_16 (xs : Option (List Int32)) (n : Nat) (b : Bool) (d : Nat) (ml : List Value) (t : T) (Q : Option Value → T → Prop) (st : List Value) : vc xs zH_58 (n + 1) b d 58 16 ml st t Q = vc xs zH_58 n true d 58 17 ml (.int 5 :: st) t Q := by
  rw [vc_q (o := (0, 5, 0, 0, [])) (by decide +kernel)]; rfl
theorem v_58_17 (xs : Option (List Int32)) (n : Nat) (b : Bool) (d : Nat) (ml : List Value) (t : T) (Q : Option Value → T → Prop) (u v : Int32) (r : List Value) : vc xs zH_58 (n + 1) b d 58 17 ml (.int v :: .int u :: r) t Q = (if u = v then vc xs zH_58 n true d 58 20 ml r t Q else vc xs zH_58 n true d 58 53 ml r t Q) := by
  rw [vc_q (o := (20, 0, 53, 1, [])) (by decide +kernel)]; rfl
theorem v_58_20 (xs : Option (List Int32)) (n : Nat) (b : Bool) (d : Nat) (ml : List Value) (t : T) (Q : Option Value → T → Prop) (st : List Value) : vc xs zH_58 (n + 1) b d 58 20 ml st t Q = vga ml 0 (fun v => vc xs zH_58 n true d 58 21 ml (.ref v :: st) t Q) := by
  rw [vc_q (o := (2, 0, 0, 0, [])) (by decide +kernel)]; rfl
theorem v_58_21 (xs : Option (List Int32)) (n : Nat) (b : Bool) (d : Nat) (ml : List Value) (t : T) (Q : Option Value → T → Prop) (u : Nat) (r : List Value) : vc xs zH_58 (n + 1) b d 58 21 ml (.ref u :: r) t Q = (vtag u = 12 ∧ vc xs zH_58 n true d 58 24 ml (.ref (tref t u 7) :: r) t Q) := by
  rw [vc_q (o := (25, 0, 12, 7, [])) (by decide +kernel)]; rfl
theorem v_58_24 (xs : Option (List Int32)) (n : Nat) (b : Bool) (d : Nat) (ml : List Value) (t : T) (Q : Option Value → T → Prop) (st : List Value) : vc xs zH_58 (n + 1) b d 58 24 ml st t Q = vgi ml 2 (fun v => vc xs zH_58 n true d 58 25 ml (.int v :: st) t Q) := by
  rw [vc_q (o := (1, 0, 2, 0, [])) (by decide +kernel)]; rfl
theorem v_58_25 (xs : Option (List Int32)) (n : Nat) (b : Bool) (d : Nat) (ml : List Value) (t : T) (Q : Option Value → T → Prop) (v : Int32) (u : Nat) (r : List Value) : vc xs zH_58 (n + 1) b d 58 25 ml (.int v :: .ref u :: r) t Q = (vtag u = 100 ∧ vinb v (vlen u) ∧ vc xs zH_58 n true d 58 26 ml (.int (t.1 u v.toNatClampNeg) :: r) t Q) := by
  rw [vc_q (o := (29, 0, 0, 0, [])) (by decide +kernel)]; rfl
theorem v_58_26 (xs : Option (List Int32)) (n : Nat) (b : Bool) (d : Nat) (ml : List Value) (t : T) (Q : Option Value → T → Prop) (st : List Value) : vc xs zH_58 (n + 1) b d 58 26 ml st t Q = vga ml 0 (fun v => vc xs zH_58 n true d 58 27 ml (.ref v :: st) t Q) := by
  rw [vc_q (o := (2, 0, 0, 0, [])) (by decide +kernel)]; rfl
theorem v_58_27 (xs : Option (List Int32)) (n : Nat) (b : Bool) (d : Nat) (ml : List Value) (t : T) (Q : Option Value → T → Prop) (u : Nat) (r : List Value) : vc xs zH_58 (n + 1) b d 58 27 ml (.ref u :: r) t Q = (vtag u = 12 ∧ vc xs zH_58 n true d 58 30 ml (.ref (tref t u 7) :: r) t Q) := by
  rw [vc_q (o := (25, 0, 12, 7, [])) (by decide +kernel)]; rfl
theorem v_58_30 (xs : Option (List Int32)) (n : Nat) (b : Bool) (d : Nat) (ml : List Value) (t : T) (Q : Option Value → T → Prop) (st : List Value) : vc xs zH_58 (n + 1) b d 58 30 ml st t Q = vgi ml 3 (fun v => vc xs zH_58 n true d 58 31 ml (.int v :: st) t Q) := by
  rw [vc_q (o := (1, 0, 3, 0, [])) (by decide +kernel)]; rfl
theorem v_58_31 (xs : Option (List Int32)) (n : Nat) (b : Bool) (d : Nat) (ml : List Value) (t : T) (Q : Option Value → T → Prop) (v : Int32) (u : Nat) (r : List Value) : vc xs zH_58 (n + 1) b d 58 31 ml (.int v :: .ref u :: r) t Q = (vtag u = 100 ∧ vinb v (vlen u) ∧ vc xs zH_58 n true d 58 32 ml (.int (t.1 u v.toNatClampNeg) :: r) t Q) := by
  rw [vc_q (o := (29, 0, 0, 0, [])) (by decide +kernel)]; rfl
theorem v_58_32 (xs : Option (List Int32)) (n : Nat) (b : Bool) (d : Nat) (ml : List Value) (t : T) (Q : Option Value → T → Prop) (u v : Int32) (r : List Value) : vc xs zH_58 (n + 1) b d 58 32 ml (.int v :: .int u :: r) t Q = (if v < u then vc xs zH_58 n true d 58 35 ml r t Q else vc xs zH_58 n true d 58 44 ml r t Q) := by
  rw [vc_q (o := (20, 0, 44, 5, [])) (by decide +kernel)]; rfl
theorem v_58_35 (xs : Option (List Int32)) (n : Nat) (b : Bool) (d : Nat) (ml : List Value) (t : T) (Q : Option Value → T → Prop) (st : List Value) : vc xs zH_58 (n + 1) b d 58 35 ml st t Q = vga ml 0 (fun v => vc xs zH_58 n true d 58 36 ml (.ref v :: st) t Q) := by
  rw [vc_q (o := (2, 0, 0, 0, [])) (by decide +kernel)]; rfl
theorem v_58_36 (xs : Option (List Int32)) (n : Nat) (b : Bool) (d : Nat) (ml : List Value) (t : T) (Q : Option Value → T → Prop) (u : Nat) (r : List Value) : vc xs zH_58 (n + 1) b d 58 36 ml (.ref u :: r) t Q = (vtag u = 12 ∧ vc xs zH_58 n true d 58 39 ml (.ref (tref t u 7) :: r) t Q) := by
  rw [vc_q (o := (25, 0, 12, 7, [])) (by decide +kernel)]; rfl
theorem v_58_39 (xs : Option (List Int32)) (n : Nat) (b : Bool) (d : Nat) (ml : List Value) (t : T) (Q : Option Value → T → Prop) (st : List Value) : vc xs zH_58 (n + 1) b d 58 39 ml st t Q = vgi ml 2 (fun v => vc xs zH_58 n true d 58 40 ml (.int v :: st) t Q) := by
  rw [vc_q (o := (1, 0, 2, 0, [])) (by decide +kernel)]; rfl
theorem v_58_40 (xs : Option (List Int32)) (n : Nat) (b : Bool) (d : Nat) (ml : List Value) (t : T) (Q : Option Value → T → Prop) (v : Int32) (u : Nat) (r : List Value) : vc xs zH_58 (n + 1) b d 58 40 ml (.int v :: .ref u :: r) t Q = (vtag u = 100 ∧ vinb v (vlen u) ∧ vc xs zH_58 n true d 58 41 ml (.int (t.1 u v.toNatClampNeg) :: r) t Q) := by
  rw [vc_q (o := (29, 0, 0, 0, [])) (by decide +kernel)]; rfl
theorem v_58_41 (xs : Option (List Int32)) (n : Nat) (b : Bool) (d : Nat) (ml : List Value) (t : T) (Q : Option Value → T → Prop) (st : List Value) : vc xs zH_58 (n + 1) b d 58 41 ml st t Q = vc xs zH_58 n true d 58 59 ml st t Q := by
  rw [vc_q (o := (22, 0, 59, 0, [])) (by decide +kernel)]; rfl
theorem v_58_44 (xs : Option (List Int32)) (n : Nat) (b : Bool) (d : Nat) (ml : List Value) (t : T) (Q : Option Value → T → Prop) (st : List Value) : vc xs zH_58 (n + 1) b d 58 44 ml st t Q = vga ml 0 (fun v => vc xs zH_58 n true d 58 45 ml (.ref v :: st) t Q) := by
  rw [vc_q (o := (2, 0, 0, 0, [])) (by decide +kernel)]; rfl
theorem v_58_45 (xs : Option (List Int32)) (n : Nat) (b : Bool) (d : Nat) (ml : List Value) (t : T) (Q : Option Value → T → Prop) (u : Nat) (r : List Value) : vc xs zH_58 (n + 1) b d 58 45 ml (.ref u :: r) t Q = (vtag u = 12 ∧ vc xs zH_58 n true d 58 48 ml (.ref (tref t u 7) :: r) t Q) := by
  rw [vc_q (o := (25, 0, 12, 7, [])) (by decide +kernel)]; rfl
theorem v_58_48 (xs : Option (List Int32)) (n : Nat) (b : Bool) (d : Nat) (ml : List Value) (t : T) (Q : Option Value → T → Prop) (st : List Value) : vc xs zH_58 (n + 1) b d 58 48 ml st t Q = vgi ml 3 (fun v => vc xs zH_58 n true d 58 49 ml (.int v :: st) t Q) := by
  rw [vc_q (o := (1, 0, 3, 0, [])) (by decide +kernel)]; rfl
theorem v_58_49 (xs : Option (List Int32)) (n : Nat) (b : Bool) (d : Nat) (ml : List Value) (t : T) (Q : Option Value → T → Prop) (v : Int32) (u : Nat) (r : List Value) : vc xs zH_58 (n + 1) b d 58 49 ml (.int v :: .ref u :: r) t Q = (vtag u = 100 ∧ vinb v (vlen u) ∧ vc xs zH_58 n true d 58 50 ml (.int (t.1 u v.toNatClampNeg) :: r) t Q) := by
  rw [vc_q (o := (29, 0, 0, 0, [])) (by decide +kernel)]; rfl
theorem v_58_50 (xs : Option (List Int32)) (n : Nat) (b : Bool) (d : Nat) (ml : List Value) (t : T) (Q : Option Value → T → Prop) (st : List Value) : vc xs zH_58 (n + 1) b d 58 50 ml st t Q = vc xs zH_58 n true d 58 59 ml st t Q := by
  rw [vc_q (o := (22, 0, 59, 0, [])) (by decide +kernel)]; rfl
theorem v_58_53 (xs : Option (List Int32)) (n : Nat) (b : Bool) (d : Nat) (ml : List Value) (t : T) (Q : Option Value → T → Prop) (st : List Value) : vc xs zH_58 (n + 1) b d 58 53 ml st t Q = vga ml 0 (fun v => vc xs zH_58 n true d 58 54 ml (.ref v :: st) t Q) := by
  rw [vc_q (o := (2, 0, 0, 0, [])) (by decide +kernel)]; rfl
theorem v_58_54 (xs : Option (List Int32)) (n : Nat) (b : Bool) (d : Nat) (ml : List Value) (t : T) (Q : Option Value → T → Prop) (u : Nat) (r : List Value) : vc xs zH_58 (n + 1) b d 58 54 ml (.ref u :: r) t Q = (vtag u = 12 ∧ vc xs zH_58 n true d 58 57 ml (.ref (tref t u 7) :: r) t Q) := by
  rw [vc_q (o := (25, 0, 12, 7, [])) (by decide +kernel)]; rfl
theorem v_58_57 (xs : Option (List Int32)) (n : Nat) (b : Bool) (d : Nat) (ml : List Value) (t : T) (Q : Option Value → T → Prop) (st : List Value) : vc xs zH_58 (n + 1) b d 58 57 ml st t Q = vgi ml 2 (fun v => vc xs zH_58 n true d 58 58 ml (.int v :: st) t Q) := by
  rw [vc_q (o := (1, 0, 2, 0, [])) (by decide +kernel)]; rfl
theorem v_58_58 (xs : Option (List Int32)) (n : Nat) (b : Bool) (d : Nat) (ml : List Value) (t : T) (Q : Option Value → T → Prop) (v : Int32) (u : Nat) (r : List Value) : vc xs zH_58 (n + 1) b d 58 58 ml (.int v :: .ref u :: r) t Q = (vtag u = 100 ∧ vinb v (vlen u) ∧ vc xs zH_58 n true d 58 59 ml (.int (t.1 u v.toNatClampNeg) :: r) t Q) := by
  rw [vc_q (o := (29, 0, 0, 0, [])) (by decide +kernel)]; rfl
theorem v_58_59 (xs : Option (List Int32)) (n : Nat) (b : Bool) (d : Nat) (ml : List Value) (t : T) (Q : Option Value → T → Prop) (u v : Int32) (r : List Value) : vc xs zH_58 (n + 1) b d 58 59 ml (.int v :: .int u :: r) t Q = vc xs zH_58 n true d 58 60 ml (.int (u + v) :: r) t Q := by
  rw [vc_q (o := (6, 0, 0, 0, [])) (by decide +kernel)]; rfl
theorem v_58_60 (xs : Option (List Int32)) (n : Nat) (b : Bool) (d : Nat) (ml : List Value) (t : T) (Q : Option Value → T → Prop) (v : Int32) : vc xs zH_58 (n + 1) b d 58 60 ml [.int v] t Q = Q (some (.int v)) t := by
  rw [vc_q (o := (40, 0, 0, 0, [])) (by decide +kernel)]; rfl
def zH_59 : List Nat := []
theorem v_59_0 (xs : Option (List Int32)) (n : Nat) (b : Bool) (d : Nat) (ml : List Value) (t : T) (Q : Option Value → T → Prop) (st : List Value) : vc xs zH_59 (n + 1) b d 59 0 ml st t Q = vgi ml 1 (fun v => vc xs zH_59 n true d 59 1 ml (.int v :: st) t Q) := by
  rw [vc_q (o := (1, 0, 1, 0, [])) (by decide +kernel)]; rfl
theorem v_59_1 (xs : Option (List Int32)) (n : Nat) (b : Bool) (d : Nat) (ml : List Value) (t : T) (Q : Option Value → T → Prop) (u : Int32) (r : List Value) : vc xs zH_59 (n + 1) b d 59 1 ml (.int u :: r) t Q = vsw (fun p => vc xs zH_59 n true d 59 p ml r t Q) u [(0, 52), (1, 54), (2, 84), (3, 93), (4, 101), (5, 101), (6, 136), (7, 136), (8, 117)] 136 := by
  rw [vc_q (o := (23, 0, 136, 0, [(0, 52), (1, 54), (2, 84), (3, 93), (4, 101), (5, 101), (6, 136), (7, 136), (8, 117)])) (by decide +kernel)]; rfl
theorem v_59_52 (xs : Option (List Int32)) (n : Nat) (b : Bool) (d : Nat) (ml : List Value) (t : T) (Q : Option Value → T → Prop) (st : List Value) : vc xs zH_59 (n + 1) b d 59 52 ml st t Q = vc xs zH_59 n true d 59 53 ml (.int 0 :: st) t Q := by
  rw [vc_q (o := (0, 0, 0, 0, [])) (by decide +kernel)]; rfl
theorem v_59_53 (xs : Option (List Int32)) (n : Nat) (b : Bool) (d : Nat) (ml : List Value) (t : T) (Q : Option Value → T → Prop) (v : Int32) : vc xs zH_59 (n + 1) b d 59 53 ml [.int v] t Q = Q (some (.int v)) t := by
  rw [vc_q (o := (40, 0, 0, 0, [])) (by decide +kernel)]; rfl
theorem v_59_54 (xs : Option (List Int32)) (n : Nat) (b : Bool) (d : Nat) (ml : List Value) (t : T) (Q : Option Value → T → Prop) (st : List Value) : vc xs zH_59 (n + 1) b d 59 54 ml st t Q = vgi ml 2 (fun v => vc xs zH_59 n true d 59 55 ml (.int v :: st) t Q) := by
  rw [vc_q (o := (1, 0, 2, 0, [])) (by decide +kernel)]; rfl
theorem v_59_55 (xs : Option (List Int32)) (n : Nat) (b : Bool) (d : Nat) (ml : List Value) (t : T) (Q : Option Value → T → Prop) (st : List Value) : vc xs zH_59 (n + 1) b d 59 55 ml st t Q = vc xs zH_59 n true d 59 56 ml (.int 2 :: st) t Q := by
  rw [vc_q (o := (0, 2, 0, 0, [])) (by decide +kernel)]; rfl
theorem v_59_56 (xs : Option (List Int32)) (n : Nat) (b : Bool) (d : Nat) (ml : List Value) (t : T) (Q : Option Value → T → Prop) (u v : Int32) (r : List Value) : vc xs zH_59 (n + 1) b d 59 56 ml (.int v :: .int u :: r) t Q = (if u < v then vc xs zH_59 n true d 59 59 ml r t Q else vc xs zH_59 n true d 59 63 ml r t Q) := by
  rw [vc_q (o := (20, 0, 63, 3, [])) (by decide +kernel)]; rfl
theorem v_59_59 (xs : Option (List Int32)) (n : Nat) (b : Bool) (d : Nat) (ml : List Value) (t : T) (Q : Option Value → T → Prop) (st : List Value) : vc xs zH_59 (n + 1) b d 59 59 ml st t Q = vc xs zH_59 n true d 59 60 ml (.int 0 :: st) t Q := by
  rw [vc_q (o := (0, 0, 0, 0, [])) (by decide +kernel)]; rfl
theorem v_59_60 (xs : Option (List Int32)) (n : Nat) (b : Bool) (d : Nat) (ml : List Value) (t : T) (Q : Option Value → T → Prop) (st : List Value) : vc xs zH_59 (n + 1) b d 59 60 ml st t Q = vc xs zH_59 n true d 59 83 ml st t Q := by
  rw [vc_q (o := (22, 0, 83, 0, [])) (by decide +kernel)]; rfl
theorem v_59_63 (xs : Option (List Int32)) (n : Nat) (b : Bool) (d : Nat) (ml : List Value) (t : T) (Q : Option Value → T → Prop) (st : List Value) : vc xs zH_59 (n + 1) b d 59 63 ml st t Q = vgi ml 2 (fun v => vc xs zH_59 n true d 59 64 ml (.int v :: st) t Q) := by
  rw [vc_q (o := (1, 0, 2, 0, [])) (by decide +kernel)]; rfl
theorem v_59_64 (xs : Option (List Int32)) (n : Nat) (b : Bool) (d : Nat) (ml : List Value) (t : T) (Q : Option Value → T → Prop) (st : List Value) : vc xs zH_59 (n + 1) b d 59 64 ml st t Q = vc xs zH_59 n true d 59 66 ml (.int 6 :: st) t Q := by
  rw [vc_q (o := (0, 6, 1, 0, [])) (by decide +kernel)]; rfl
theorem v_59_66 (xs : Option (List Int32)) (n : Nat) (b : Bool) (d : Nat) (ml : List Value) (t : T) (Q : Option Value → T → Prop) (u v : Int32) (r : List Value) : vc xs zH_59 (n + 1) b d 59 66 ml (.int v :: .int u :: r) t Q = (if u < v then vc xs zH_59 n true d 59 69 ml r t Q else vc xs zH_59 n true d 59 75 ml r t Q) := by
  rw [vc_q (o := (20, 0, 75, 3, [])) (by decide +kernel)]; rfl
theorem v_59_69 (xs : Option (List Int32)) (n : Nat) (b : Bool) (d : Nat) (ml : List Value) (t : T) (Q : Option Value → T → Prop) (st : List Value) : vc xs zH_59 (n + 1) b d 59 69 ml st t Q = vc xs zH_59 n true d 59 70 ml (.int 1 :: st) t Q := by
  rw [vc_q (o := (0, 1, 0, 0, [])) (by decide +kernel)]; rfl
theorem v_59_70 (xs : Option (List Int32)) (n : Nat) (b : Bool) (d : Nat) (ml : List Value) (t : T) (Q : Option Value → T → Prop) (st : List Value) : vc xs zH_59 (n + 1) b d 59 70 ml st t Q = vgi ml 3 (fun v => vc xs zH_59 n true d 59 71 ml (.int v :: st) t Q) := by
  rw [vc_q (o := (1, 0, 3, 0, [])) (by decide +kernel)]; rfl
theorem v_59_71 (xs : Option (List Int32)) (n : Nat) (b : Bool) (d : Nat) (ml : List Value) (t : T) (Q : Option Value → T → Prop) (u v : Int32) (r : List Value) : vc xs zH_59 (n + 1) b d 59 71 ml (.int v :: .int u :: r) t Q = vc xs zH_59 n true d 59 72 ml (.int (u <<< (v &&& 31)) :: r) t Q := by
  rw [vc_q (o := (12, 0, 0, 0, [])) (by decide +kernel)]; rfl
theorem v_59_72 (xs : Option (List Int32)) (n : Nat) (b : Bool) (d : Nat) (ml : List Value) (t : T) (Q : Option Value → T → Prop) (st : List Value) : vc xs zH_59 (n + 1) b d 59 72 ml st t Q = vc xs zH_59 n true d 59 83 ml st t Q := by
  rw [vc_q (o := (22, 0, 83, 0, [])) (by decide +kernel)]; rfl
theorem v_59_75 (xs : Option (List Int32)) (n : Nat) (b : Bool) (d : Nat) (ml : List Value) (t : T) (Q : Option Value → T → Prop) (st : List Value) : vc xs zH_59 (n + 1) b d 59 75 ml st t Q = vc xs zH_59 n true d 59 76 ml (.int 1 :: st) t Q := by
  rw [vc_q (o := (0, 1, 0, 0, [])) (by decide +kernel)]; rfl
theorem v_59_76 (xs : Option (List Int32)) (n : Nat) (b : Bool) (d : Nat) (ml : List Value) (t : T) (Q : Option Value → T → Prop) (st : List Value) : vc xs zH_59 (n + 1) b d 59 76 ml st t Q = vgi ml 3 (fun v => vc xs zH_59 n true d 59 77 ml (.int v :: st) t Q) := by
  rw [vc_q (o := (1, 0, 3, 0, [])) (by decide +kernel)]; rfl
theorem v_59_77 (xs : Option (List Int32)) (n : Nat) (b : Bool) (d : Nat) (ml : List Value) (t : T) (Q : Option Value → T → Prop) (u v : Int32) (r : List Value) : vc xs zH_59 (n + 1) b d 59 77 ml (.int v :: .int u :: r) t Q = vc xs zH_59 n true d 59 78 ml (.int (u <<< (v &&& 31)) :: r) t Q := by
  rw [vc_q (o := (12, 0, 0, 0, [])) (by decide +kernel)]; rfl
theorem v_59_78 (xs : Option (List Int32)) (n : Nat) (b : Bool) (d : Nat) (ml : List Value) (t : T) (Q : Option Value → T → Prop) (st : List Value) : vc xs zH_59 (n + 1) b d 59 78 ml st t Q = vc xs zH_59 n true d 59 79 ml (.int 1 :: st) t Q := by
  rw [vc_q (o := (0, 1, 0, 0, [])) (by decide +kernel)]; rfl
theorem v_59_79 (xs : Option (List Int32)) (n : Nat) (b : Bool) (d : Nat) (ml : List Value) (t : T) (Q : Option Value → T → Prop) (st : List Value) : vc xs zH_59 (n + 1) b d 59 79 ml st t Q = vgi ml 4 (fun v => vc xs zH_59 n true d 59 81 ml (.int v :: st) t Q) := by
  rw [vc_q (o := (1, 0, 4, 1, [])) (by decide +kernel)]; rfl
theorem v_59_81 (xs : Option (List Int32)) (n : Nat) (b : Bool) (d : Nat) (ml : List Value) (t : T) (Q : Option Value → T → Prop) (u v : Int32) (r : List Value) : vc xs zH_59 (n + 1) b d 59 81 ml (.int v :: .int u :: r) t Q = vc xs zH_59 n true d 59 82 ml (.int (u <<< (v &&& 31)) :: r) t Q := by
  rw [vc_q (o := (12, 0, 0, 0, [])) (by decide +kernel)]; rfl
theorem v_59_82 (xs : Option (List Int32)) (n : Nat) (b : Bool) (d : Nat) (ml : List Value) (t : T) (Q : Option Value → T → Prop) (u v : Int32) (r : List Value) : vc xs zH_59 (n + 1) b d 59 82 ml (.int v :: .int u :: r) t Q = vc xs zH_59 n true d 59 83 ml (.int (u ||| v) :: r) t Q := by
  rw [vc_q (o := (10, 0, 0, 0, [])) (by decide +kernel)]; rfl
theorem v_59_83 (xs : Option (List Int32)) (n : Nat) (b : Bool) (d : Nat) (ml : List Value) (t : T) (Q : Option Value → T → Prop) (v : Int32) : vc xs zH_59 (n + 1) b d 59 83 ml [.int v] t Q = Q (some (.int v)) t := by
  rw [vc_q (o := (40, 0, 0, 0, [])) (by decide +kernel)]; rfl
theorem v_59_84 (xs : Option (List Int32)) (n : Nat) (b : Bool) (d : Nat) (ml : List Value) (t : T) (Q : Option Value → T → Prop) (st : List Value) : vc xs zH_59 (n + 1) b d 59 84 ml st t Q = vc xs zH_59 n true d 59 85 ml (.int 1 :: st) t Q := by
  rw [vc_q (o := (0, 1, 0, 0, [])) (by decide +kernel)]; rfl
theorem v_59_85 (xs : Option (List Int32)) (n : Nat) (b : Bool) (d : Nat) (ml : List Value) (t : T) (Q : Option Value → T → Prop) (st : List Value) : vc xs zH_59 (n + 1) b d 59 85 ml st t Q = vgi ml 3 (fun v => vc xs zH_59 n true d 59 86 ml (.int v :: st) t Q) := by
  rw [vc_q (o := (1, 0, 3, 0, [])) (by decide +kernel)]; rfl
theorem v_59_86 (xs : Option (List Int32)) (n : Nat) (b : Bool) (d : Nat) (ml : List Value) (t : T) (Q : Option Value → T → Prop) (u v : Int32) (r : List Value) : vc xs zH_59 (n + 1) b d 59 86 ml (.int v :: .int u :: r) t Q = vc xs zH_59 n true d 59 87 ml (.int (u <<< (v &&& 31)) :: r) t Q := by
  rw [vc_q (o := (12, 0, 0, 0, [])) (by decide +kernel)]; rfl
theorem v_59_87 (xs : Option (List Int32)) (n : Nat) (b : Bool) (d : Nat) (ml : List Value) (t : T) (Q : Option Value → T → Prop) (st : List Value) : vc xs zH_59 (n + 1) b d 59 87 ml st t Q = vc xs zH_59 n true d 59 88 ml (.int 1 :: st) t Q := by
  rw [vc_q (o := (0, 1, 0, 0, [])) (by decide +kernel)]; rfl
theorem v_59_88 (xs : Option (List Int32)) (n : Nat) (b : Bool) (d : Nat) (ml : List Value) (t : T) (Q : Option Value → T → Prop) (st : List Value) : vc xs zH_59 (n + 1) b d 59 88 ml st t Q = vgi ml 4 (fun v => vc xs zH_59 n true d 59 90 ml (.int v :: st) t Q) := by
  rw [vc_q (o := (1, 0, 4, 1, [])) (by decide +kernel)]; rfl
theorem v_59_90 (xs : Option (List Int32)) (n : Nat) (b : Bool) (d : Nat) (ml : List Value) (t : T) (Q : Option Value → T → Prop) (u v : Int32) (r : List Value) : vc xs zH_59 (n + 1) b d 59 90 ml (.int v :: .int u :: r) t Q = vc xs zH_59 n true d 59 91 ml (.int (u <<< (v &&& 31)) :: r) t Q := by
  rw [vc_q (o := (12, 0, 0, 0, [])) (by decide +kernel)]; rfl
theorem v_59_91 (xs : Option (List Int32)) (n : Nat) (b : Bool) (d : Nat) (ml : List Value) (t : T) (Q : Option Value → T → Prop) (u v : Int32) (r : List Value) : vc xs zH_59 (n + 1) b d 59 91 ml (.int v :: .int u :: r) t Q = vc xs zH_59 n true d 59 92 ml (.int (u ||| v) :: r) t Q := by
  rw [vc_q (o := (10, 0, 0, 0, [])) (by decide +kernel)]; rfl
theorem v_59_92 (xs : Option (List Int32)) (n : Nat) (b : Bool) (d : Nat) (ml : List Value) (t : T) (Q : Option Value → T → Prop) (v : Int32) : vc xs zH_59 (n + 1) b d 59 92 ml [.int v] t Q = Q (some (.int v)) t := by
  rw [vc_q (o := (40, 0, 0, 0, [])) (by decide +kernel)]; rfl
theorem v_59_93 (xs : Option (List Int32)) (n : Nat) (b : Bool) (d : Nat) (ml : List Value) (t : T) (Q : Option Value → T → Prop) (st : List Value) : vc xs zH_59 (n + 1) b d 59 93 ml st t Q = vga ml 0 (fun v => vc xs zH_59 n true d 59 94 ml (.ref v :: st) t Q) := by
  rw [vc_q (o := (2, 0, 0, 0, [])) (by decide +kernel)]; rfl
theorem v_59_94 (xs : Option (List Int32)) (n : Nat) (b : Bool) (d : Nat) (ml : List Value) (t : T) (Q : Option Value → T → Prop) (u : Nat) (r : List Value) : vc xs zH_59 (n + 1) b d 59 94 ml (.ref u :: r) t Q = (vtag u = 12 ∧ vc xs zH_59 n true d 59 97 ml (.ref (tref t u 8) :: r) t Q) := by
  rw [vc_q (o := (25, 0, 12, 8, [])) (by decide +kernel)]; rfl
theorem v_59_97 (xs : Option (List Int32)) (n : Nat) (b : Bool) (d : Nat) (ml : List Value) (t : T) (Q : Option Value → T → Prop) (st : List Value) : vc xs zH_59 (n + 1) b d 59 97 ml st t Q = vgi ml 4 (fun v => vc xs zH_59 n true d 59 99 ml (.int v :: st) t Q) := by
  rw [vc_q (o := (1, 0, 4, 1, [])) (by decide +kernel)]; rfl
theorem v_59_99 (xs : Option (List Int32)) (n : Nat) (b : Bool) (d : Nat) (ml : List Value) (t : T) (Q : Option Value → T → Prop) (v : Int32) (u : Nat) (r : List Value) : vc xs zH_59 (n + 1) b d 59 99 ml (.int v :: .ref u :: r) t Q = (vtag u = 100 ∧ vinb v (vlen u) ∧ vc xs zH_59 n true d 59 100 ml (.int (t.1 u v.toNatClampNeg) :: r) t Q) := by
  rw [vc_q (o := (29, 0, 0, 0, [])) (by decide +kernel)]; rfl
theorem v_59_100 (xs : Option (List Int32)) (n : Nat) (b : Bool) (d : Nat) (ml : List Value) (t : T) (Q : Option Value → T → Prop) (v : Int32) : vc xs zH_59 (n + 1) b d 59 100 ml [.int v] t Q = Q (some (.int v)) t := by
  rw [vc_q (o := (40, 0, 0, 0, [])) (by decide +kernel)]; rfl
theorem v_59_101 (xs : Option (List Int32)) (n : Nat) (b : Bool) (d : Nat) (ml : List Value) (t : T) (Q : Option Value → T → Prop) (st : List Value) : vc xs zH_59 (n + 1) b d 59 101 ml st t Q = vga ml 0 (fun v => vc xs zH_59 n true d 59 102 ml (.ref v :: st) t Q) := by
  rw [vc_q (o := (2, 0, 0, 0, [])) (by decide +kernel)]; rfl
theorem v_59_102 (xs : Option (List Int32)) (n : Nat) (b : Bool) (d : Nat) (ml : List Value) (t : T) (Q : Option Value → T → Prop) (u : Nat) (r : List Value) : vc xs zH_59 (n + 1) b d 59 102 ml (.ref u :: r) t Q = (vtag u = 12 ∧ vc xs zH_59 n true d 59 105 ml (.ref (tref t u 8) :: r) t Q) := by
  rw [vc_q (o := (25, 0, 12, 8, [])) (by decide +kernel)]; rfl
theorem v_59_105 (xs : Option (List Int32)) (n : Nat) (b : Bool) (d : Nat) (ml : List Value) (t : T) (Q : Option Value → T → Prop) (st : List Value) : vc xs zH_59 (n + 1) b d 59 105 ml st t Q = vgi ml 4 (fun v => vc xs zH_59 n true d 59 107 ml (.int v :: st) t Q) := by
  rw [vc_q (o := (1, 0, 4, 1, [])) (by decide +kernel)]; rfl
theorem v_59_107 (xs : Option (List Int32)) (n : Nat) (b : Bool) (d : Nat) (ml : List Value) (t : T) (Q : Option Value → T → Prop) (v : Int32) (u : Nat) (r : List Value) : vc xs zH_59 (n + 1) b d 59 107 ml (.int v :: .ref u :: r) t Q = (vtag u = 100 ∧ vinb v (vlen u) ∧ vc xs zH_59 n true d 59 108 ml (.int (t.1 u v.toNatClampNeg) :: r) t Q) := by
  rw [vc_q (o := (29, 0, 0, 0, [])) (by decide +kernel)]; rfl
theorem v_59_108 (xs : Option (List Int32)) (n : Nat) (b : Bool) (d : Nat) (ml : List Value) (t : T) (Q : Option Value → T → Prop) (st : List Value) : vc xs zH_59 (n + 1) b d 59 108 ml st t Q = vga ml 0 (fun v => vc xs zH_59 n true d 59 109 ml (.ref v :: st) t Q) := by
  rw [vc_q (o := (2, 0, 0, 0, [])) (by decide +kernel)]; rfl
theorem v_59_109 (xs : Option (List Int32)) (n : Nat) (b : Bool) (d : Nat) (ml : List Value) (t : T) (Q : Option Value → T → Prop) (u : Nat) (r : List Value) : vc xs zH_59 (n + 1) b d 59 109 ml (.ref u :: r) t Q = (vtag u = 12 ∧ vc xs zH_59 n true d 59 112 ml (.ref (tref t u 8) :: r) t Q) := by
  rw [vc_q (o := (25, 0, 12, 8, [])) (by decide +kernel)]; rfl
theorem v_59_112 (xs : Option (List Int32)) (n : Nat) (b : Bool) (d : Nat) (ml : List Value) (t : T) (Q : Option Value → T → Prop) (st : List Value) : vc xs zH_59 (n + 1) b d 59 112 ml st t Q = vgi ml 5 (fun v => vc xs zH_59 n true d 59 114 ml (.int v :: st) t Q) := by
  rw [vc_q (o := (1, 0, 5, 1, [])) (by decide +kernel)]; rfl
theorem v_59_114 (xs : Option (List Int32)) (n : Nat) (b : Bool) (d : Nat) (ml : List Value) (t : T) (Q : Option Value → T → Prop) (v : Int32) (u : Nat) (r : List Value) : vc xs zH_59 (n + 1) b d 59 114 ml (.int v :: .ref u :: r) t Q = (vtag u = 100 ∧ vinb v (vlen u) ∧ vc xs zH_59 n true d 59 115 ml (.int (t.1 u v.toNatClampNeg) :: r) t Q) := by
  rw [vc_q (o := (29, 0, 0, 0, [])) (by decide +kernel)]; rfl
theorem v_59_115 (xs : Option (List Int32)) (n : Nat) (b : Bool) (d : Nat) (ml : List Value) (t : T) (Q : Option Value → T → Prop) (u v : Int32) (r : List Value) : vc xs zH_59 (n + 1) b d 59 115 ml (.int v :: .int u :: r) t Q = vc xs zH_59 n true d 59 116 ml (.int (u ||| v) :: r) t Q := by
  rw [vc_q (o := (10, 0, 0, 0, [])) (by decide +kernel)]; rfl
theorem v_59_116 (xs : Option (List Int32)) (n : Nat) (b : Bool) (d : Nat) (ml : List Value) (t : T) (Q : Option Value → T → Prop) (v : Int32) : vc xs zH_59 (n + 1) b d 59 116 ml [.int v] t Q = Q (some (.int v)) t := by
  rw [vc_q (o := (40, 0, 0, 0, [])) (by decide +kernel)]; rfl
theorem v_59_117 (xs : Option (List Int32)) (n : Nat) (b : Bool) (d : Nat) (ml : List Value) (t : T) (Q : Option Value → T → Prop) (st : List Value) : vc xs zH_59 (n + 1) b d 59 117 ml st t Q = vga ml 0 (fun v => vc xs zH_59 n true d 59 118 ml (.ref v :: st) t Q) := by
  rw [vc_q (o := (2, 0, 0, 0, [])) (by decide +kernel)]; rfl
theorem v_59_118 (xs : Option (List Int32)) (n : Nat) (b : Bool) (d : Nat) (ml : List Value) (t : T) (Q : Option Value → T → Prop) (u : Nat) (r : List Value) : vc xs zH_59 (n + 1) b d 59 118 ml (.ref u :: r) t Q = (vtag u = 12 ∧ vc xs zH_59 n true d 59 121 ml (.ref (tref t u 8) :: r) t Q) := by
  rw [vc_q (o := (25, 0, 12, 8, [])) (by decide +kernel)]; rfl
theorem v_59_121 (xs : Option (List Int32)) (n : Nat) (b : Bool) (d : Nat) (ml : List Value) (t : T) (Q : Option Value → T → Prop) (st : List Value) : vc xs zH_59 (n + 1) b d 59 121 ml st t Q = vgi ml 4 (fun v => vc xs zH_59 n true d 59 123 ml (.int v :: st) t Q) := by
  rw [vc_q (o := (1, 0, 4, 1, [])) (by decide +kernel)]; rfl
theorem v_59_123 (xs : Option (List Int32)) (n : Nat) (b : Bool) (d : Nat) (ml : List Value) (t : T) (Q : Option Value → T → Prop) (v : Int32) (u : Nat) (r : List Value) : vc xs zH_59 (n + 1) b d 59 123 ml (.int v :: .ref u :: r) t Q = (vtag u = 100 ∧ vinb v (vlen u) ∧ vc xs zH_59 n true d 59 124 ml (.int (t.1 u v.toNatClampNeg) :: r) t Q) := by
  rw [vc_q (o := (29, 0, 0, 0, [])) (by decide +kernel)]; rfl
theorem v_59_124 (xs : Option (List Int32)) (n : Nat) (b : Bool) (d : Nat) (ml : List Value) (t : T) (Q : Option Value → T → Prop) (st : List Value) : vc xs zH_59 (n + 1) b d 59 124 ml st t Q = vc xs zH_59 n true d 59 126 ml (.int 15 :: st) t Q := by
  rw [vc_q (o := (0, 15, 1, 0, [])) (by decide +kernel)]; rfl
theorem v_59_126 (xs : Option (List Int32)) (n : Nat) (b : Bool) (d : Nat) (ml : List Value) (t : T) (Q : Option Value → T → Prop) (u v : Int32) (r : List Value) : vc xs zH_59 (n + 1) b d 59 126 ml (.int v :: .int u :: r) t Q = vc xs zH_59 n true d 59 127 ml (.int (u &&& v) :: r) t Q := by
  rw [vc_q (o := (9, 0, 0, 0, [])) (by decide +kernel)]; rfl
theorem v_59_127 (xs : Option (List Int32)) (n : Nat) (b : Bool) (d : Nat) (ml : List Value) (t : T) (Q : Option Value → T → Prop) (st : List Value) : vc xs zH_59 (n + 1) b d 59 127 ml st t Q = vc xs zH_59 n true d 59 128 ml (.int 1 :: st) t Q := by
  rw [vc_q (o := (0, 1, 0, 0, [])) (by decide +kernel)]; rfl
theorem v_59_128 (xs : Option (List Int32)) (n : Nat) (b : Bool) (d : Nat) (ml : List Value) (t : T) (Q : Option Value → T → Prop) (st : List Value) : vc xs zH_59 (n + 1) b d 59 128 ml st t Q = vgi ml 2 (fun v => vc xs zH_59 n true d 59 129 ml (.int v :: st) t Q) := by
  rw [vc_q (o := (1, 0, 2, 0, [])) (by decide +kernel)]; rfl
theorem v_59_129 (xs : Option (List Int32)) (n : Nat) (b : Bool) (d : Nat) (ml : List Value) (t : T) (Q : Option Value → T → Prop) (u v : Int32) (r : List Value) : vc xs zH_59 (n + 1) b d 59 129 ml (.int v :: .int u :: r) t Q = vc xs zH_59 n true d 59 130 ml (.int (u <<< (v &&& 31)) :: r) t Q := by
  rw [vc_q (o := (12, 0, 0, 0, [])) (by decide +kernel)]; rfl
theorem v_59_130 (xs : Option (List Int32)) (n : Nat) (b : Bool) (d : Nat) (ml : List Value) (t : T) (Q : Option Value → T → Prop) (u v : Int32) (r : List Value) : vc xs zH_59 (n + 1) b d 59 130 ml (.int v :: .int u :: r) t Q = vc xs zH_59 n true d 59 131 ml (.int (u ||| v) :: r) t Q := by
  rw [vc_q (o := (10, 0, 0, 0, [])) (by decide +kernel)]; rfl
theorem v_59_131 (xs : Option (List Int32)) (n : Nat) (b : Bool) (d : Nat) (ml : List Value) (t : T) (Q : Option Value → T → Prop) (st : List Value) : vc xs zH_59 (n + 1) b d 59 131 ml st t Q = vc xs zH_59 n true d 59 132 ml (.int 1 :: st) t Q := by
  rw [vc_q (o := (0, 1, 0, 0, [])) (by decide +kernel)]; rfl
theorem v_59_132 (xs : Option (List Int32)) (n : Nat) (b : Bool) (d : Nat) (ml : List Value) (t : T) (Q : Option Value → T → Prop) (st : List Value) : vc xs zH_59 (n + 1) b d 59 132 ml st t Q = vgi ml 3 (fun v => vc xs zH_59 n true d 59 133 ml (.int v :: st) t Q) := by
  rw [vc_q (o := (1, 0, 3, 0, [])) (by decide +kernel)]; rfl
theorem v_59_133 (xs : Option (List Int32)) (n : Nat) (b : Bool) (d : Nat) (ml : List Value) (t : T) (Q : Option Value → T → Prop) (u v : Int32) (r : List Value) : vc xs zH_59 (n + 1) b d 59 133 ml (.int v :: .int u :: r) t Q = vc xs zH_59 n true d 59 134 ml (.int (u <<< (v &&& 31)) :: r) t Q := by
  rw [vc_q (o := (12, 0, 0, 0, [])) (by decide +kernel)]; rfl
theorem v_59_134 (xs : Option (List Int32)) (n : Nat) (b : Bool) (d : Nat) (ml : List Value) (t : T) (Q : Option Value → T → Prop) (u v : Int32) (r : List Value) : vc xs zH_59 (n + 1) b d 59 134 ml (.int v :: .int u :: r) t Q = vc xs zH_59 n true d 59 135 ml (.int (u ||| v) :: r) t Q := by
  rw [vc_q (o := (10, 0, 0, 0, [])) (by decide +kernel)]; rfl
theorem v_59_135 (xs : Option (List Int32)) (n : Nat) (b : Bool) (d : Nat) (ml : List Value) (t : T) (Q : Option Value → T → Prop) (v : Int32) : vc xs zH_59 (n + 1) b d 59 135 ml [.int v] t Q = Q (some (.int v)) t := by
  rw [vc_q (o := (40, 0, 0, 0, [])) (by decide +kernel)]; rfl
theorem v_59_136 (xs : Option (List Int32)) (n : Nat) (b : Bool) (d : Nat) (ml : List Value) (t : T) (Q : Option Value → T → Prop) (st : List Value) : vc xs zH_59 (n + 1) b d 59 136 ml st t Q = vga ml 0 (fun v => vc xs zH_59 n true d 59 137 ml (.ref v :: st) t Q) := by
  rw [vc_q (o := (2, 0, 0, 0, [])) (by decide +kernel)]; rfl
theorem v_59_137 (xs : Option (List Int32)) (n : Nat) (b : Bool) (d : Nat) (ml : List Value) (t : T) (Q : Option Value → T → Prop) (u : Nat) (r : List Value) : vc xs zH_59 (n + 1) b d 59 137 ml (.ref u :: r) t Q = (vtag u = 12 ∧ vc xs zH_59 n true d 59 140 ml (.ref (tref t u 8) :: r) t Q) := by
  rw [vc_q (o := (25, 0, 12, 8, [])) (by decide +kernel)]; rfl
theorem v_59_140 (xs : Option (List Int32)) (n : Nat) (b : Bool) (d : Nat) (ml : List Value) (t : T) (Q : Option Value → T → Prop) (st : List Value) : vc xs zH_59 (n + 1) b d 59 140 ml st t Q = vgi ml 4 (fun v => vc xs zH_59 n true d 59 142 ml (.int v :: st) t Q) := by
  rw [vc_q (o := (1, 0, 4, 1, [])) (by decide +kernel)]; rfl
theorem v_59_142 (xs : Option (List Int32)) (n : Nat) (b : Bool) (d : Nat) (ml : List Value) (t : T) (Q : Option Value → T → Prop) (v : Int32) (u : Nat) (r : List Value) : vc xs zH_59 (n + 1) b d 59 142 ml (.int v :: .ref u :: r) t Q = (vtag u = 100 ∧ vinb v (vlen u) ∧ vc xs zH_59 n true d 59 143 ml (.int (t.1 u v.toNatClampNeg) :: r) t Q) := by
  rw [vc_q (o := (29, 0, 0, 0, [])) (by decide +kernel)]; rfl
theorem v_59_143 (xs : Option (List Int32)) (n : Nat) (b : Bool) (d : Nat) (ml : List Value) (t : T) (Q : Option Value → T → Prop) (st : List Value) : vc xs zH_59 (n + 1) b d 59 143 ml st t Q = vc xs zH_59 n true d 59 145 ml (.int 63 :: st) t Q := by
  rw [vc_q (o := (0, 63, 1, 0, [])) (by decide +kernel)]; rfl
theorem v_59_145 (xs : Option (List Int32)) (n : Nat) (b : Bool) (d : Nat) (ml : List Value) (t : T) (Q : Option Value → T → Prop) (st : List Value) : vc xs zH_59 (n + 1) b d 59 145 ml st t Q = vc xs zH_59 n true d 59 146 ml (.int 1 :: st) t Q := by
  rw [vc_q (o := (0, 1, 0, 0, [])) (by decide +kernel)]; rfl
theorem v_59_146 (xs : Option (List Int32)) (n : Nat) (b : Bool) (d : Nat) (ml : List Value) (t : T) (Q : Option Value → T → Prop) (st : List Value) : vc xs zH_59 (n + 1) b d 59 146 ml st t Q = vgi ml 2 (fun v => vc xs zH_59 n true d 59 147 ml (.int v :: st) t Q) := by
  rw [vc_q (o := (1, 0, 2, 0, [])) (by decide +kernel)]; rfl
theorem v_59_147 (xs : Option (List Int32)) (n : Nat) (b : Bool) (d : Nat) (ml : List Value) (t : T) (Q : Option Value → T → Prop) (u v : Int32) (r : List Value) : vc xs zH_59 (n + 1) b d 59 147 ml (.int v :: .int u :: r) t Q = vc xs zH_59 n true d 59 148 ml (.int (u <<< (v &&& 31)) :: r) t Q := by
  rw [vc_q (o := (12, 0, 0, 0, [])) (by decide +kernel)]; rfl
theorem v_59_148 (xs : Option (List Int32)) (n : Nat) (b : Bool) (d : Nat) (ml : List Value) (t : T) (Q : Option Value → T → Prop) (u v : Int32) (r : List Value) : vc xs zH_59 (n + 1) b d 59 148 ml (.int v :: .int u :: r) t Q = vc xs zH_59 n true d 59 149 ml (.int (u - v) :: r) t Q := by
  rw [vc_q (o := (7, 0, 0, 0, [])) (by decide +kernel)]; rfl
theorem v_59_149 (xs : Option (List Int32)) (n : Nat) (b : Bool) (d : Nat) (ml : List Value) (t : T) (Q : Option Value → T → Prop) (u v : Int32) (r : List Value) : vc xs zH_59 (n + 1) b d 59 149 ml (.int v :: .int u :: r) t Q = vc xs zH_59 n true d 59 150 ml (.int (u &&& v) :: r) t Q := by
  rw [vc_q (o := (9, 0, 0, 0, [])) (by decide +kernel)]; rfl
theorem v_59_150 (xs : Option (List Int32)) (n : Nat) (b : Bool) (d : Nat) (ml : List Value) (t : T) (Q : Option Value → T → Prop) (v : Int32) : vc xs zH_59 (n + 1) b d 59 150 ml [.int v] t Q = Q (some (.int v)) t := by
  rw [vc_q (o := (40, 0, 0, 0, [])) (by decide +kernel)]; rfl
def zH_60 : List Nat := [175]
theorem v_60_0 (xs : Option (List Int32)) (n : Nat) (b : Bool) (d : Nat) (ml : List Value) (t : T) (Q : Option Value → T → Prop) (st : List Value) : vc xs zH_60 (n + 1) b d 60 0 ml st t Q = vga ml 0 (fun v => vc xs zH_60 n true d 60 1 ml (.ref v :: st) t Q) := by
  rw [vc_q (o := (2, 0, 0, 0, [])) (by decide +kernel)]; rfl
theorem v_60_1 (xs : Option (List Int32)) (n : Nat) (b : Bool) (d : Nat) (ml : List Value) (t : T) (Q : Option Value → T → Prop) (st : List Value) : vc xs zH_60 (n + 1) b d 60 1 ml st t Q = vgi ml 1 (fun v => vc xs zH_60 n true d 60 2 ml (.int v :: st) t Q) := by
  rw [vc_q (o := (1, 0, 1, 0, [])) (by decide +kernel)]; rfl
theorem v_60_2 (xs : Option (List Int32)) (n : Nat) (b : Bool) (d : Nat) (ml : List Value) (t : T) (Q : Option Value → T → Prop) (st : List Value) : vc xs zH_60 (n + 1) b d 60 2 ml st t Q = vgi ml 2 (fun v => vc xs zH_60 n true d 60 3 ml (.int v :: st) t Q) := by
  rw [vc_q (o := (1, 0, 2, 0, [])) (by decide +kernel)]; rfl
theorem v_60_3 (xs : Option (List Int32)) (n : Nat) (b : Bool) (d : Nat) (ml : List Value) (t : T) (Q : Option Value → T → Prop) (st : List Value) : vc xs zH_60 (n + 1) b d 60 3 ml st t Q = vgi ml 3 (fun v => vc xs zH_60 n true d 60 4 ml (.int v :: st) t Q) := by
  rw [vc_q (o := (1, 0, 3, 0, [])) (by decide +kernel)]; rfl
theorem v_60_4 (xs : Option (List Int32)) (n : Nat) (b : Bool) (d : Nat) (ml : List Value) (t : T) (Q : Option Value → T → Prop) (st : List Value) : vc xs zH_60 (n + 1) b d 60 4 ml st t Q = vgi ml 4 (fun v => vc xs zH_60 n true d 60 6 ml (.int v :: st) t Q) := by
  rw [vc_q (o := (1, 0, 4, 1, [])) (by decide +kernel)]; rfl
theorem v_60_6 (xs : Option (List Int32)) (n : Nat) (b : Bool) (d : Nat) (ml : List Value) (t : T) (Q : Option Value → T → Prop) (st : List Value) : vc xs zH_60 (n + 1) b d 60 6 ml st t Q = vgi ml 5 (fun v => vc xs zH_60 n true d 60 8 ml (.int v :: st) t Q) := by
  rw [vc_q (o := (1, 0, 5, 1, [])) (by decide +kernel)]; rfl
theorem v_60_8 (xs : Option (List Int32)) (n : Nat) (b : Bool) (d : Nat) (ml : List Value) (t : T) (Q : Option Value → T → Prop) (st : List Value) : vc xs zH_60 (n + 1) b d 60 8 ml st t Q = (st.all zc1 = true ∧ vtk 6 st [] (fun as rest => rest.length ≤ 8 ∧ vrc as 12 (twc d 57 as t (fun r t' => vc xs zH_60 n true d 60 11 ml (r.toList ++ rest) t' Q)))) := by
  rw [vc_q (o := (36, 0, 57, 5, [(0, 12)])) (by decide +kernel)]; rfl
theorem v_60_11 (xs : Option (List Int32)) (n : Nat) (b : Bool) (d : Nat) (ml : List Value) (t : T) (Q : Option Value → T → Prop) (u : Int32) (r : List Value) : vc xs zH_60 (n + 1) b d 60 11 ml (.int u :: r) t Q = (if u = 0 then vc xs zH_60 n true d 60 27 ml r t Q else vc xs zH_60 n true d 60 14 ml r t Q) := by
  rw [vc_q (o := (21, 0, 27, 0, [])) (by decide +kernel)]; rfl
theorem v_60_14 (xs : Option (List Int32)) (n : Nat) (b : Bool) (d : Nat) (ml : List Value) (t : T) (Q : Option Value → T → Prop) (st : List Value) : vc xs zH_60 (n + 1) b d 60 14 ml st t Q = vga ml 0 (fun v => vc xs zH_60 n true d 60 15 ml (.ref v :: st) t Q) := by
  rw [vc_q (o := (2, 0, 0, 0, [])) (by decide +kernel)]; rfl
theorem v_60_15 (xs : Option (List Int32)) (n : Nat) (b : Bool) (d : Nat) (ml : List Value) (t : T) (Q : Option Value → T → Prop) (st : List Value) : vc xs zH_60 (n + 1) b d 60 15 ml st t Q = vgi ml 1 (fun v => vc xs zH_60 n true d 60 16 ml (.int v :: st) t Q) := by
  rw [vc_q (o := (1, 0, 1, 0, [])) (by decide +kernel)]; rfl
theorem v_60_16 (xs : Option (List Int32)) (n : Nat) (b : Bool) (d : Nat) (ml : List Value) (t : T) (Q : Option Value → T → Prop) (st : List Value) : vc xs zH_60 (n + 1) b d 60 16 ml st t Q = vgi ml 4 (fun v => vc xs zH_60 n true d 60 18 ml (.int v :: st) t Q) := by
  rw [vc_q (o := (1, 0, 4, 1, [])) (by decide +kernel)]; rfl
theorem v_60_18 (xs : Option (List Int32)) (n : Nat) (b : Bool) (d : Nat) (ml : List Value) (t : T) (Q : Option Value → T → Prop) (st : List Value) : vc xs zH_60 (n + 1) b d 60 18 ml st t Q = vgi ml 5 (fun v => vc xs zH_60 n true d 60 20 ml (.int v :: st) t Q) := by
  rw [vc_q (o := (1, 0, 5, 1, [])) (by decide +kernel)]; rfl
theorem v_60_20 (xs : Option (List Int32)) (n : Nat) (b : Bool) (d : Nat) (ml : List Value) (t : T) (Q : Option Value → T → Prop) (st : List Value) : vc xs zH_60 (n + 1) b d 60 20 ml st t Q = (st.all zc1 = true ∧ vtk 4 st [] (fun as rest => rest.length ≤ 8 ∧ vrc as 12 (twc d 58 as t (fun r t' => vc xs zH_60 n true d 60 23 ml (r.toList ++ rest) t' Q)))) := by
  rw [vc_q (o := (36, 0, 58, 3, [(0, 12)])) (by decide +kernel)]; rfl
theorem v_60_23 (xs : Option (List Int32)) (n : Nat) (b : Bool) (d : Nat) (ml : List Value) (t : T) (Q : Option Value → T → Prop) (st : List Value) : vc xs zH_60 (n + 1) b d 60 23 ml st t Q = vc xs zH_60 n true d 60 24 ml (.int 4 :: st) t Q := by
  rw [vc_q (o := (0, 4, 0, 0, [])) (by decide +kernel)]; rfl
theorem v_60_24 (xs : Option (List Int32)) (n : Nat) (b : Bool) (d : Nat) (ml : List Value) (t : T) (Q : Option Value → T → Prop) (u v : Int32) (r : List Value) : vc xs zH_60 (n + 1) b d 60 24 ml (.int v :: .int u :: r) t Q = (if v < u then vc xs zH_60 n true d 60 27 ml r t Q else vc xs zH_60 n true d 60 29 ml r t Q) := by
  rw [vc_q (o := (20, 0, 29, 5, [])) (by decide +kernel)]; rfl
theorem v_60_27 (xs : Option (List Int32)) (n : Nat) (b : Bool) (d : Nat) (ml : List Value) (t : T) (Q : Option Value → T → Prop) (st : List Value) : vc xs zH_60 (n + 1) b d 60 27 ml st t Q = vc xs zH_60 n true d 60 28 ml (.int (-1) :: st) t Q := by
  rw [vc_q (o := (0, (-1), 0, 0, [])) (by decide +kernel)]; rfl
theorem v_60_28 (xs : Option (List Int32)) (n : Nat) (b : Bool) (d : Nat) (ml : List Value) (t : T) (Q : Option Value → T → Prop) (v : Int32) : vc xs zH_60 (n + 1) b d 60 28 ml [.int v] t Q = Q (some (.int v)) t := by
  rw [vc_q (o := (40, 0, 0, 0, [])) (by decide +kernel)]; rfl
theorem v_60_29 (xs : Option (List Int32)) (n : Nat) (b : Bool) (d : Nat) (ml : List Value) (t : T) (Q : Option Value → T → Prop) (st : List Value) : vc xs zH_60 (n + 1) b d 60 29 ml st t Q = vga ml 0 (fun v => vc xs zH_60 n true d 60 30 ml (.ref v :: st) t Q) := by
  rw [vc_q (o := (2, 0, 0, 0, [])) (by decide +kernel)]; rfl
theorem v_60_30 (xs : Option (List Int32)) (n : Nat) (b : Bool) (d : Nat) (ml : List Value) (t : T) (Q : Option Value → T → Prop) (u : Nat) (r : List Value) : vc xs zH_60 (n + 1) b d 60 30 ml (.ref u :: r) t Q = (vtag u = 12 ∧ vc xs zH_60 n true d 60 33 ml (.int (t.1 u 1) :: r) t Q) := by
  rw [vc_q (o := (24, 0, 12, 1, [])) (by decide +kernel)]; rfl
theorem v_60_33 (xs : Option (List Int32)) (n : Nat) (b : Bool) (d : Nat) (ml : List Value) (t : T) (Q : Option Value → T → Prop) (st : List Value) : vc xs zH_60 (n + 1) b d 60 33 ml st t Q = vc xs zH_60 n true d 60 35 ml (.int 40 :: st) t Q := by
  rw [vc_q (o := (0, 40, 1, 0, [])) (by decide +kernel)]; rfl
theorem v_60_35 (xs : Option (List Int32)) (n : Nat) (b : Bool) (d : Nat) (ml : List Value) (t : T) (Q : Option Value → T → Prop) (u v : Int32) (r : List Value) : vc xs zH_60 (n + 1) b d 60 35 ml (.int v :: .int u :: r) t Q = (if u = v then vc xs zH_60 n true d 60 38 ml r t Q else vc xs zH_60 n true d 60 41 ml r t Q) := by
  rw [vc_q (o := (20, 0, 41, 1, [])) (by decide +kernel)]; rfl
theorem v_60_38 (xs : Option (List Int32)) (n : Nat) (b : Bool) (d : Nat) (ml : List Value) (t : T) (Q : Option Value → T → Prop) (st : List Value) : vc xs zH_60 (n + 1) b d 60 38 ml st t Q = vc xs zH_60 n true d 60 40 ml (.int (-2) :: st) t Q := by
  rw [vc_q (o := (0, (-2), 1, 0, [])) (by decide +kernel)]; rfl
theorem v_60_40 (xs : Option (List Int32)) (n : Nat) (b : Bool) (d : Nat) (ml : List Value) (t : T) (Q : Option Value → T → Prop) (v : Int32) : vc xs zH_60 (n + 1) b d 60 40 ml [.int v] t Q = Q (some (.int v)) t := by
  rw [vc_q (o := (40, 0, 0, 0, [])) (by decide +kernel)]; rfl
theorem v_60_41 (xs : Option (List Int32)) (n : Nat) (b : Bool) (d : Nat) (ml : List Value) (t : T) (Q : Option Value → T → Prop) (st : List Value) : vc xs zH_60 (n + 1) b d 60 41 ml st t Q = vga ml 0 (fun v => vc xs zH_60 n true d 60 42 ml (.ref v :: st) t Q) := by
  rw [vc_q (o := (2, 0, 0, 0, [])) (by decide +kernel)]; rfl
theorem v_60_42 (xs : Option (List Int32)) (n : Nat) (b : Bool) (d : Nat) (ml : List Value) (t : T) (Q : Option Value → T → Prop) (u : Nat) (r : List Value) : vc xs zH_60 (n + 1) b d 60 42 ml (.ref u :: r) t Q = (vtag u = 12 ∧ vc xs zH_60 n true d 60 45 ml (.int (t.1 u 1) :: r) t Q) := by
  rw [vc_q (o := (24, 0, 12, 1, [])) (by decide +kernel)]; rfl
theorem v_60_45 (xs : Option (List Int32)) (n : Nat) (b : Bool) (d : Nat) (ml : List Value) (t : T) (Q : Option Value → T → Prop) (v : Int32) (r : List Value) : vc xs zH_60 (n + 1) b d 60 45 ml (.int v :: r) t Q = vset ml 6 (.int v) (fun l => vc xs zH_60 n true d 60 47 l r t Q) := by
  rw [vc_q (o := (3, 0, 6, 1, [])) (by decide +kernel)]; rfl
theorem v_60_47 (xs : Option (List Int32)) (n : Nat) (b : Bool) (d : Nat) (ml : List Value) (t : T) (Q : Option Value → T → Prop) (st : List Value) : vc xs zH_60 (n + 1) b d 60 47 ml st t Q = vga ml 0 (fun v => vc xs zH_60 n true d 60 48 ml (.ref v :: st) t Q) := by
  rw [vc_q (o := (2, 0, 0, 0, [])) (by decide +kernel)]; rfl
theorem v_60_48 (xs : Option (List Int32)) (n : Nat) (b : Bool) (d : Nat) (ml : List Value) (t : T) (Q : Option Value → T → Prop) (u : Nat) (r : List Value) : vc xs zH_60 (n + 1) b d 60 48 ml (.ref u :: r) t Q = (vtag u = 12 ∧ vc xs zH_60 n true d 60 51 ml (.ref (tref t u 2) :: r) t Q) := by
  rw [vc_q (o := (25, 0, 12, 2, [])) (by decide +kernel)]; rfl
theorem v_60_51 (xs : Option (List Int32)) (n : Nat) (b : Bool) (d : Nat) (ml : List Value) (t : T) (Q : Option Value → T → Prop) (st : List Value) : vc xs zH_60 (n + 1) b d 60 51 ml st t Q = vgi ml 6 (fun v => vc xs zH_60 n true d 60 53 ml (.int v :: st) t Q) := by
  rw [vc_q (o := (1, 0, 6, 1, [])) (by decide +kernel)]; rfl
theorem v_60_53 (xs : Option (List Int32)) (n : Nat) (b : Bool) (d : Nat) (ml : List Value) (t : T) (Q : Option Value → T → Prop) (st : List Value) : vc xs zH_60 (n + 1) b d 60 53 ml st t Q = vgi ml 1 (fun v => vc xs zH_60 n true d 60 54 ml (.int v :: st) t Q) := by
  rw [vc_q (o := (1, 0, 1, 0, [])) (by decide +kernel)]; rfl
theorem v_60_54 (xs : Option (List Int32)) (n : Nat) (b : Bool) (d : Nat) (ml : List Value) (t : T) (Q : Option Value → T → Prop) (w v : Int32) (u : Nat) (r : List Value) : vc xs zH_60 (n + 1) b d 60 54 ml (.int w :: .int v :: .ref u :: r) t Q = (vtag u = 100 ∧ vinb v (vlen u) ∧ vc xs zH_60 n true d 60 55 ml r (tsi t u v.toNatClampNeg w) Q) := by
  rw [vc_q (o := (32, 0, 0, 0, [])) (by decide +kernel)]; rfl
theorem v_60_55 (xs : Option (List Int32)) (n : Nat) (b : Bool) (d : Nat) (ml : List Value) (t : T) (Q : Option Value → T → Prop) (st : List Value) : vc xs zH_60 (n + 1) b d 60 55 ml st t Q = vga ml 0 (fun v => vc xs zH_60 n true d 60 56 ml (.ref v :: st) t Q) := by
  rw [vc_q (o := (2, 0, 0, 0, [])) (by decide +kernel)]; rfl
theorem v_60_56 (xs : Option (List Int32)) (n : Nat) (b : Bool) (d : Nat) (ml : List Value) (t : T) (Q : Option Value → T → Prop) (u : Nat) (r : List Value) : vc xs zH_60 (n + 1) b d 60 56 ml (.ref u :: r) t Q = (vtag u = 12 ∧ vc xs zH_60 n true d 60 59 ml (.ref (tref t u 3) :: r) t Q) := by
  rw [vc_q (o := (25, 0, 12, 3, [])) (by decide +kernel)]; rfl
theorem v_60_59 (xs : Option (List Int32)) (n : Nat) (b : Bool) (d : Nat) (ml : List Value) (t : T) (Q : Option Value → T → Prop) (st : List Value) : vc xs zH_60 (n + 1) b d 60 59 ml st t Q = vgi ml 6 (fun v => vc xs zH_60 n true d 60 61 ml (.int v :: st) t Q) := by
  rw [vc_q (o := (1, 0, 6, 1, [])) (by decide +kernel)]; rfl
theorem v_60_61 (xs : Option (List Int32)) (n : Nat) (b : Bool) (d : Nat) (ml : List Value) (t : T) (Q : Option Value → T → Prop) (st : List Value) : vc xs zH_60 (n + 1) b d 60 61 ml st t Q = vgi ml 2 (fun v => vc xs zH_60 n true d 60 62 ml (.int v :: st) t Q) := by
  rw [vc_q (o := (1, 0, 2, 0, [])) (by decide +kernel)]; rfl
theorem v_60_62 (xs : Option (List Int32)) (n : Nat) (b : Bool) (d : Nat) (ml : List Value) (t : T) (Q : Option Value → T → Prop) (w v : Int32) (u : Nat) (r : List Value) : vc xs zH_60 (n + 1) b d 60 62 ml (.int w :: .int v :: .ref u :: r) t Q = (vtag u = 100 ∧ vinb v (vlen u) ∧ vc xs zH_60 n true d 60 63 ml r (tsi t u v.toNatClampNeg w) Q) := by
  rw [vc_q (o := (32, 0, 0, 0, [])) (by decide +kernel)]; rfl
theorem v_60_63 (xs : Option (List Int32)) (n : Nat) (b : Bool) (d : Nat) (ml : List Value) (t : T) (Q : Option Value → T → Prop) (st : List Value) : vc xs zH_60 (n + 1) b d 60 63 ml st t Q = vga ml 0 (fun v => vc xs zH_60 n true d 60 64 ml (.ref v :: st) t Q) := by
  rw [vc_q (o := (2, 0, 0, 0, [])) (by decide +kernel)]; rfl
theorem v_60_64 (xs : Option (List Int32)) (n : Nat) (b : Bool) (d : Nat) (ml : List Value) (t : T) (Q : Option Value → T → Prop) (u : Nat) (r : List Value) : vc xs zH_60 (n + 1) b d 60 64 ml (.ref u :: r) t Q = (vtag u = 12 ∧ vc xs zH_60 n true d 60 67 ml (.ref (tref t u 4) :: r) t Q) := by
  rw [vc_q (o := (25, 0, 12, 4, [])) (by decide +kernel)]; rfl
theorem v_60_67 (xs : Option (List Int32)) (n : Nat) (b : Bool) (d : Nat) (ml : List Value) (t : T) (Q : Option Value → T → Prop) (st : List Value) : vc xs zH_60 (n + 1) b d 60 67 ml st t Q = vgi ml 6 (fun v => vc xs zH_60 n true d 60 69 ml (.int v :: st) t Q) := by
  rw [vc_q (o := (1, 0, 6, 1, [])) (by decide +kernel)]; rfl
theorem v_60_69 (xs : Option (List Int32)) (n : Nat) (b : Bool) (d : Nat) (ml : List Value) (t : T) (Q : Option Value → T → Prop) (st : List Value) : vc xs zH_60 (n + 1) b d 60 69 ml st t Q = vgi ml 3 (fun v => vc xs zH_60 n true d 60 70 ml (.int v :: st) t Q) := by
  rw [vc_q (o := (1, 0, 3, 0, [])) (by decide +kernel)]; rfl
theorem v_60_70 (xs : Option (List Int32)) (n : Nat) (b : Bool) (d : Nat) (ml : List Value) (t : T) (Q : Option Value → T → Prop) (w v : Int32) (u : Nat) (r : List Value) : vc xs zH_60 (n + 1) b d 60 70 ml (.int w :: .int v :: .ref u :: r) t Q = (vtag u = 100 ∧ vinb v (vlen u) ∧ vc xs zH_60 n true d 60 71 ml r (tsi t u v.toNatClampNeg w) Q) := by
  rw [vc_q (o := (32, 0, 0, 0, [])) (by decide +kernel)]; rfl
theorem v_60_71 (xs : Option (List Int32)) (n : Nat) (b : Bool) (d : Nat) (ml : List Value) (t : T) (Q : Option Value → T → Prop) (st : List Value) : vc xs zH_60 (n + 1) b d 60 71 ml st t Q = vga ml 0 (fun v => vc xs zH_60 n true d 60 72 ml (.ref v :: st) t Q) := by
  rw [vc_q (o := (2, 0, 0, 0, [])) (by decide +kernel)]; rfl
theorem v_60_72 (xs : Option (List Int32)) (n : Nat) (b : Bool) (d : Nat) (ml : List Value) (t : T) (Q : Option Value → T → Prop) (u : Nat) (r : List Value) : vc xs zH_60 (n + 1) b d 60 72 ml (.ref u :: r) t Q = (vtag u = 12 ∧ vc xs zH_60 n true d 60 75 ml (.ref (tref t u 5) :: r) t Q) := by
  rw [vc_q (o := (25, 0, 12, 5, [])) (by decide +kernel)]; rfl
theorem v_60_75 (xs : Option (List Int32)) (n : Nat) (b : Bool) (d : Nat) (ml : List Value) (t : T) (Q : Option Value → T → Prop) (st : List Value) : vc xs zH_60 (n + 1) b d 60 75 ml st t Q = vgi ml 6 (fun v => vc xs zH_60 n true d 60 77 ml (.int v :: st) t Q) := by
  rw [vc_q (o := (1, 0, 6, 1, [])) (by decide +kernel)]; rfl
theorem v_60_77 (xs : Option (List Int32)) (n : Nat) (b : Bool) (d : Nat) (ml : List Value) (t : T) (Q : Option Value → T → Prop) (st : List Value) : vc xs zH_60 (n + 1) b d 60 77 ml st t Q = vgi ml 4 (fun v => vc xs zH_60 n true d 60 79 ml (.int v :: st) t Q) := by
  rw [vc_q (o := (1, 0, 4, 1, [])) (by decide +kernel)]; rfl
theorem v_60_79 (xs : Option (List Int32)) (n : Nat) (b : Bool) (d : Nat) (ml : List Value) (t : T) (Q : Option Value → T → Prop) (w v : Int32) (u : Nat) (r : List Value) : vc xs zH_60 (n + 1) b d 60 79 ml (.int w :: .int v :: .ref u :: r) t Q = (vtag u = 100 ∧ vinb v (vlen u) ∧ vc xs zH_60 n true d 60 80 ml r (tsi t u v.toNatClampNeg w) Q) := by
  rw [vc_q (o := (32, 0, 0, 0, [])) (by decide +kernel)]; rfl
theorem v_60_80 (xs : Option (List Int32)) (n : Nat) (b : Bool) (d : Nat) (ml : List Value) (t : T) (Q : Option Value → T → Prop) (st : List Value) : vc xs zH_60 (n + 1) b d 60 80 ml st t Q = vga ml 0 (fun v => vc xs zH_60 n true d 60 81 ml (.ref v :: st) t Q) := by
  rw [vc_q (o := (2, 0, 0, 0, [])) (by decide +kernel)]; rfl
theorem v_60_81 (xs : Option (List Int32)) (n : Nat) (b : Bool) (d : Nat) (ml : List Value) (t : T) (Q : Option Value → T → Prop) (u : Nat) (r : List Value) : vc xs zH_60 (n + 1) b d 60 81 ml (.ref u :: r) t Q = (vtag u = 12 ∧ vc xs zH_60 n true d 60 84 ml (.ref (tref t u 6) :: r) t Q) := by
  rw [vc_q (o := (25, 0, 12, 6, [])) (by decide +kernel)]; rfl
theorem v_60_84 (xs : Option (List Int32)) (n : Nat) (b : Bool) (d : Nat) (ml : List Value) (t : T) (Q : Option Value → T → Prop) (st : List Value) : vc xs zH_60 (n + 1) b d 60 84 ml st t Q = vgi ml 6 (fun v => vc xs zH_60 n true d 60 86 ml (.int v :: st) t Q) := by
  rw [vc_q (o := (1, 0, 6, 1, [])) (by decide +kernel)]; rfl
theorem v_60_86 (xs : Option (List Int32)) (n : Nat) (b : Bool) (d : Nat) (ml : List Value) (t : T) (Q : Option Value → T → Prop) (st : List Value) : vc xs zH_60 (n + 1) b d 60 86 ml st t Q = vgi ml 5 (fun v => vc xs zH_60 n true d 60 88 ml (.int v :: st) t Q) := by
  rw [vc_q (o := (1, 0, 5, 1, [])) (by decide +kernel)]; rfl
theorem v_60_88 (xs : Option (List Int32)) (n : Nat) (b : Bool) (d : Nat) (ml : List Value) (t : T) (Q : Option Value → T → Prop) (w v : Int32) (u : Nat) (r : List Value) : vc xs zH_60 (n + 1) b d 60 88 ml (.int w :: .int v :: .ref u :: r) t Q = (vtag u = 100 ∧ vinb v (vlen u) ∧ vc xs zH_60 n true d 60 89 ml r (tsi t u v.toNatClampNeg w) Q) := by
  rw [vc_q (o := (32, 0, 0, 0, [])) (by decide +kernel)]; rfl
theorem v_60_89 (xs : Option (List Int32)) (n : Nat) (b : Bool) (d : Nat) (ml : List Value) (t : T) (Q : Option Value → T → Prop) (st : List Value) : vc xs zH_60 (n + 1) b d 60 89 ml st t Q = vga ml 0 (fun v => vc xs zH_60 n true d 60 90 ml (.ref v :: st) t Q) := by
  rw [vc_q (o := (2, 0, 0, 0, [])) (by decide +kernel)]; rfl
theorem v_60_90 (xs : Option (List Int32)) (n : Nat) (b : Bool) (d : Nat) (ml : List Value) (t : T) (Q : Option Value → T → Prop) (u : Nat) (r : List Value) : vc xs zH_60 (n + 1) b d 60 90 ml (.ref u :: r) t Q = (vtag u = 12 ∧ vc xs zH_60 n true d 60 93 ml (.ref (tref t u 7) :: r) t Q) := by
  rw [vc_q (o := (25, 0, 12, 7, [])) (by decide +kernel)]; rfl
theorem v_60_93 (xs : Option (List Int32)) (n : Nat) (b : Bool) (d : Nat) (ml : List Value) (t : T) (Q : Option Value → T → Prop) (st : List Value) : vc xs zH_60 (n + 1) b d 60 93 ml st t Q = vgi ml 6 (fun v => vc xs zH_60 n true d 60 95 ml (.int v :: st) t Q) := by
  rw [vc_q (o := (1, 0, 6, 1, [])) (by decide +kernel)]; rfl
theorem v_60_95 (xs : Option (List Int32)) (n : Nat) (b : Bool) (d : Nat) (ml : List Value) (t : T) (Q : Option Value → T → Prop) (st : List Value) : vc xs zH_60 (n + 1) b d 60 95 ml st t Q = vga ml 0 (fun v => vc xs zH_60 n true d 60 96 ml (.ref v :: st) t Q) := by
  rw [vc_q (o := (2, 0, 0, 0, [])) (by decide +kernel)]; rfl
theorem v_60_96 (xs : Option (List Int32)) (n : Nat) (b : Bool) (d : Nat) (ml : List Value) (t : T) (Q : Option Value → T → Prop) (st : List Value) : vc xs zH_60 (n + 1) b d 60 96 ml st t Q = vgi ml 1 (fun v => vc xs zH_60 n true d 60 97 ml (.int v :: st) t Q) := by
  rw [vc_q (o := (1, 0, 1, 0, [])) (by decide +kernel)]; rfl
theorem v_60_97 (xs : Option (List Int32)) (n : Nat) (b : Bool) (d : Nat) (ml : List Value) (t : T) (Q : Option Value → T → Prop) (st : List Value) : vc xs zH_60 (n + 1) b d 60 97 ml st t Q = vgi ml 4 (fun v => vc xs zH_60 n true d 60 99 ml (.int v :: st) t Q) := by
  rw [vc_q (o := (1, 0, 4, 1, [])) (by decide +kernel)]; rfl
theorem v_60_99 (xs : Option (List Int32)) (n : Nat) (b : Bool) (d : Nat) (ml : List Value) (t : T) (Q : Option Value → T → Prop) (st : List Value) : vc xs zH_60 (n + 1) b d 60 99 ml st t Q = vgi ml 5 (fun v => vc xs zH_60 n true d 60 101 ml (.int v :: st) t Q) := by
  rw [vc_q (o := (1, 0, 5, 1, [])) (by decide +kernel)]; rfl
theorem v_60_101 (xs : Option (List Int32)) (n : Nat) (b : Bool) (d : Nat) (ml : List Value) (t : T) (Q : Option Value → T → Prop) (st : List Value) : vc xs zH_60 (n + 1) b d 60 101 ml st t Q = (st.all zc1 = true ∧ vtk 4 st [] (fun as rest => rest.length ≤ 8 ∧ vrc as 12 (twc d 58 as t (fun r t' => vc xs zH_60 n true d 60 104 ml (r.toList ++ rest) t' Q)))) := by
  rw [vc_q (o := (36, 0, 58, 3, [(0, 12)])) (by decide +kernel)]; rfl
theorem v_60_104 (xs : Option (List Int32)) (n : Nat) (b : Bool) (d : Nat) (ml : List Value) (t : T) (Q : Option Value → T → Prop) (w v : Int32) (u : Nat) (r : List Value) : vc xs zH_60 (n + 1) b d 60 104 ml (.int w :: .int v :: .ref u :: r) t Q = (vtag u = 100 ∧ vinb v (vlen u) ∧ vc xs zH_60 n true d 60 105 ml r (tsi t u v.toNatClampNeg w) Q) := by
  rw [vc_q (o := (32, 0, 0, 0, [])) (by decide +kernel)]; rfl
theorem v_60_105 (xs : Option (List Int32)) (n : Nat) (b : Bool) (d : Nat) (ml : List Value) (t : T) (Q : Option Value → T → Prop) (st : List Value) : vc xs zH_60 (n + 1) b d 60 105 ml st t Q = vga ml 0 (fun v => vc xs zH_60 n true d 60 106 ml (.ref v :: st) t Q) := by
  rw [vc_q (o := (2, 0, 0, 0, [])) (by decide +kernel)]; rfl
theorem v_60_106 (xs : Option (List Int32)) (n : Nat) (b : Bool) (d : Nat) (ml : List Value) (t : T) (Q : Option Value → T → Prop) (u : Nat) (r : List Value) : vc xs zH_60 (n + 1) b d 60 106 ml (.ref u :: r) t Q = (vtag u = 12 ∧ vc xs zH_60 n true d 60 109 ml (.ref (tref t u 8) :: r) t Q) := by
  rw [vc_q (o := (25, 0, 12, 8, [])) (by decide +kernel)]; rfl
theorem v_60_109 (xs : Option (List Int32)) (n : Nat) (b : Bool) (d : Nat) (ml : List Value) (t : T) (Q : Option Value → T → Prop) (st : List Value) : vc xs zH_60 (n + 1) b d 60 109 ml st t Q = vgi ml 6 (fun v => vc xs zH_60 n true d 60 111 ml (.int v :: st) t Q) := by
  rw [vc_q (o := (1, 0, 6, 1, [])) (by decide +kernel)]; rfl
theorem v_60_111 (xs : Option (List Int32)) (n : Nat) (b : Bool) (d : Nat) (ml : List Value) (t : T) (Q : Option Value → T → Prop) (st : List Value) : vc xs zH_60 (n + 1) b d 60 111 ml st t Q = vga ml 0 (fun v => vc xs zH_60 n true d 60 112 ml (.ref v :: st) t Q) := by
  rw [vc_q (o := (2, 0, 0, 0, [])) (by decide +kernel)]; rfl
theorem v_60_112 (xs : Option (List Int32)) (n : Nat) (b : Bool) (d : Nat) (ml : List Value) (t : T) (Q : Option Value → T → Prop) (st : List Value) : vc xs zH_60 (n + 1) b d 60 112 ml st t Q = vgi ml 1 (fun v => vc xs zH_60 n true d 60 113 ml (.int v :: st) t Q) := by
  rw [vc_q (o := (1, 0, 1, 0, [])) (by decide +kernel)]; rfl
theorem v_60_113 (xs : Option (List Int32)) (n : Nat) (b : Bool) (d : Nat) (ml : List Value) (t : T) (Q : Option Value → T → Prop) (st : List Value) : vc xs zH_60 (n + 1) b d 60 113 ml st t Q = vgi ml 2 (fun v => vc xs zH_60 n true d 60 114 ml (.int v :: st) t Q) := by
  rw [vc_q (o := (1, 0, 2, 0, [])) (by decide +kernel)]; rfl
theorem v_60_114 (xs : Option (List Int32)) (n : Nat) (b : Bool) (d : Nat) (ml : List Value) (t : T) (Q : Option Value → T → Prop) (st : List Value) : vc xs zH_60 (n + 1) b d 60 114 ml st t Q = vgi ml 3 (fun v => vc xs zH_60 n true d 60 115 ml (.int v :: st) t Q) := by
  rw [vc_q (o := (1, 0, 3, 0, [])) (by decide +kernel)]; rfl
theorem v_60_115 (xs : Option (List Int32)) (n : Nat) (b : Bool) (d : Nat) (ml : List Value) (t : T) (Q : Option Value → T → Prop) (st : List Value) : vc xs zH_60 (n + 1) b d 60 115 ml st t Q = vgi ml 4 (fun v => vc xs zH_60 n true d 60 117 ml (.int v :: st) t Q) := by
  rw [vc_q (o := (1, 0, 4, 1, [])) (by decide +kernel)]; rfl
theorem v_60_117 (xs : Option (List Int32)) (n : Nat) (b : Bool) (d : Nat) (ml : List Value) (t : T) (Q : Option Value → T → Prop) (st : List Value) : vc xs zH_60 (n + 1) b d 60 117 ml st t Q = vgi ml 5 (fun v => vc xs zH_60 n true d 60 119 ml (.int v :: st) t Q) := by
  rw [vc_q (o := (1, 0, 5, 1, [])) (by decide +kernel)]; rfl
theorem v_60_119 (xs : Option (List Int32)) (n : Nat) (b : Bool) (d : Nat) (ml : List Value) (t : T) (Q : Option Value → T → Prop) (st : List Value) : vc xs zH_60 (n + 1) b d 60 119 ml st t Q = (st.all zc1 = true ∧ vtk 6 st [] (fun as rest => rest.length ≤ 8 ∧ vrc as 12 (twc d 59 as t (fun r t' => vc xs zH_60 n true d 60 122 ml (r.toList ++ rest) t' Q)))) := by
  rw [vc_q (o := (36, 0, 59, 5, [(0, 12)])) (by decide +kernel)]; rfl
theorem v_60_122 (xs : Option (List Int32)) (n : Nat) (b : Bool) (d : Nat) (ml : List Value) (t : T) (Q : Option Value → T → Prop) (w v : Int32) (u : Nat) (r : List Value) : vc xs zH_60 (n + 1) b d 60 122 ml (.int w :: .int v :: .ref u :: r) t Q = (vtag u = 100 ∧ vinb v (vlen u) ∧ vc xs zH_60 n true d 60 123 ml r (tsi t u v.toNatClampNeg w) Q) := by
  rw [vc_q (o := (32, 0, 0, 0, [])) (by decide +kernel)]; rfl
theorem v_60_123 (xs : Option (List Int32)) (n : Nat) (b : Bool) (d : Nat) (ml : List Value) (t : T) (Q : Option Value → T → Prop) (st : List Value) : vc xs zH_60 (n + 1) b d 60 123 ml st t Q = vga ml 0 (fun v => vc xs zH_60 n true d 60 124 ml (.ref v :: st) t Q) := by
  rw [vc_q (o := (2, 0, 0, 0, [])) (by decide +kernel)]; rfl
theorem v_60_124 (xs : Option (List Int32)) (n : Nat) (b : Bool) (d : Nat) (ml : List Value) (t : T) (Q : Option Value → T → Prop) (u : Nat) (r : List Value) : vc xs zH_60 (n + 1) b d 60 124 ml (.ref u :: r) t Q = (vtag u = 12 ∧ vc xs zH_60 n true d 60 127 ml (.ref (tref t u 9) :: r) t Q) := by
  rw [vc_q (o := (25, 0, 12, 9, [])) (by decide +kernel)]; rfl
theorem v_60_127 (xs : Option (List Int32)) (n : Nat) (b : Bool) (d : Nat) (ml : List Value) (t : T) (Q : Option Value → T → Prop) (st : List Value) : vc xs zH_60 (n + 1) b d 60 127 ml st t Q = vgi ml 6 (fun v => vc xs zH_60 n true d 60 129 ml (.int v :: st) t Q) := by
  rw [vc_q (o := (1, 0, 6, 1, [])) (by decide +kernel)]; rfl
theorem v_60_129 (xs : Option (List Int32)) (n : Nat) (b : Bool) (d : Nat) (ml : List Value) (t : T) (Q : Option Value → T → Prop) (st : List Value) : vc xs zH_60 (n + 1) b d 60 129 ml st t Q = vgi ml 1 (fun v => vc xs zH_60 n true d 60 130 ml (.int v :: st) t Q) := by
  rw [vc_q (o := (1, 0, 1, 0, [])) (by decide +kernel)]; rfl
theorem v_60_130 (xs : Option (List Int32)) (n : Nat) (b : Bool) (d : Nat) (ml : List Value) (t : T) (Q : Option Value → T → Prop) (st : List Value) : vc xs zH_60 (n + 1) b d 60 130 ml st t Q = vc xs zH_60 n true d 60 132 ml (.int 8 :: st) t Q := by
  rw [vc_q (o := (0, 8, 1, 0, [])) (by decide +kernel)]; rfl
theorem v_60_132 (xs : Option (List Int32)) (n : Nat) (b : Bool) (d : Nat) (ml : List Value) (t : T) (Q : Option Value → T → Prop) (u v : Int32) (r : List Value) : vc xs zH_60 (n + 1) b d 60 132 ml (.int v :: .int u :: r) t Q = (if u = v then vc xs zH_60 n true d 60 170 ml r t Q else vc xs zH_60 n true d 60 135 ml r t Q) := by
  rw [vc_q (o := (20, 0, 170, 0, [])) (by decide +kernel)]; rfl
theorem v_60_135 (xs : Option (List Int32)) (n : Nat) (b : Bool) (d : Nat) (ml : List Value) (t : T) (Q : Option Value → T → Prop) (st : List Value) : vc xs zH_60 (n + 1) b d 60 135 ml st t Q = vgi ml 1 (fun v => vc xs zH_60 n true d 60 136 ml (.int v :: st) t Q) := by
  rw [vc_q (o := (1, 0, 1, 0, [])) (by decide +kernel)]; rfl
theorem v_60_136 (xs : Option (List Int32)) (n : Nat) (b : Bool) (d : Nat) (ml : List Value) (t : T) (Q : Option Value → T → Prop) (st : List Value) : vc xs zH_60 (n + 1) b d 60 136 ml st t Q = vc xs zH_60 n true d 60 137 ml (.int 2 :: st) t Q := by
  rw [vc_q (o := (0, 2, 0, 0, [])) (by decide +kernel)]; rfl
theorem v_60_137 (xs : Option (List Int32)) (n : Nat) (b : Bool) (d : Nat) (ml : List Value) (t : T) (Q : Option Value → T → Prop) (u v : Int32) (r : List Value) : vc xs zH_60 (n + 1) b d 60 137 ml (.int v :: .int u :: r) t Q = (if v < u then vc xs zH_60 n true d 60 140 ml r t Q else vc xs zH_60 n true d 60 150 ml r t Q) := by
  rw [vc_q (o := (20, 0, 150, 5, [])) (by decide +kernel)]; rfl
theorem v_60_140 (xs : Option (List Int32)) (n : Nat) (b : Bool) (d : Nat) (ml : List Value) (t : T) (Q : Option Value → T → Prop) (st : List Value) : vc xs zH_60 (n + 1) b d 60 140 ml st t Q = vga ml 0 (fun v => vc xs zH_60 n true d 60 141 ml (.ref v :: st) t Q) := by
  rw [vc_q (o := (2, 0, 0, 0, [])) (by decide +kernel)]; rfl
theorem v_60_141 (xs : Option (List Int32)) (n : Nat) (b : Bool) (d : Nat) (ml : List Value) (t : T) (Q : Option Value → T → Prop) (u : Nat) (r : List Value) : vc xs zH_60 (n + 1) b d 60 141 ml (.ref u :: r) t Q = (vtag u = 12 ∧ vc xs zH_60 n true d 60 144 ml (.ref (tref t u 9) :: r) t Q) := by
  rw [vc_q (o := (25, 0, 12, 9, [])) (by decide +kernel)]; rfl
theorem v_60_144 (xs : Option (List Int32)) (n : Nat) (b : Bool) (d : Nat) (ml : List Value) (t : T) (Q : Option Value → T → Prop) (st : List Value) : vc xs zH_60 (n + 1) b d 60 144 ml st t Q = vgi ml 4 (fun v => vc xs zH_60 n true d 60 146 ml (.int v :: st) t Q) := by
  rw [vc_q (o := (1, 0, 4, 1, [])) (by decide +kernel)]; rfl
theorem v_60_146 (xs : Option (List Int32)) (n : Nat) (b : Bool) (d : Nat) (ml : List Value) (t : T) (Q : Option Value → T → Prop) (v : Int32) (u : Nat) (r : List Value) : vc xs zH_60 (n + 1) b d 60 146 ml (.int v :: .ref u :: r) t Q = ((vtag u = 101 ∨ vtag u = 102) ∧ vinb v (vlen u) ∧ vc xs zH_60 n true d 60 147 ml (.int (t.1 u v.toNatClampNeg) :: r) t Q) := by
  rw [vc_q (o := (30, 0, 0, 0, [])) (by decide +kernel)]; rfl
theorem v_60_147 (xs : Option (List Int32)) (n : Nat) (b : Bool) (d : Nat) (ml : List Value) (t : T) (Q : Option Value → T → Prop) (u : Int32) (r : List Value) : vc xs zH_60 (n + 1) b d 60 147 ml (.int u :: r) t Q = (if u = 0 then vc xs zH_60 n true d 60 150 ml r t Q else vc xs zH_60 n true d 60 170 ml r t Q) := by
  rw [vc_q (o := (21, 0, 170, 1, [])) (by decide +kernel)]; rfl
theorem v_60_150 (xs : Option (List Int32)) (n : Nat) (b : Bool) (d : Nat) (ml : List Value) (t : T) (Q : Option Value → T → Prop) (st : List Value) : vc xs zH_60 (n + 1) b d 60 150 ml st t Q = vgi ml 1 (fun v => vc xs zH_60 n true d 60 151 ml (.int v :: st) t Q) := by
  rw [vc_q (o := (1, 0, 1, 0, [])) (by decide +kernel)]; rfl
theorem v_60_151 (xs : Option (List Int32)) (n : Nat) (b : Bool) (d : Nat) (ml : List Value) (t : T) (Q : Option Value → T → Prop) (st : List Value) : vc xs zH_60 (n + 1) b d 60 151 ml st t Q = vc xs zH_60 n true d 60 152 ml (.int 4 :: st) t Q := by
  rw [vc_q (o := (0, 4, 0, 0, [])) (by decide +kernel)]; rfl
theorem v_60_152 (xs : Option (List Int32)) (n : Nat) (b : Bool) (d : Nat) (ml : List Value) (t : T) (Q : Option Value → T → Prop) (u v : Int32) (r : List Value) : vc xs zH_60 (n + 1) b d 60 152 ml (.int v :: .int u :: r) t Q = (if u = v then vc xs zH_60 n true d 60 160 ml r t Q else vc xs zH_60 n true d 60 155 ml r t Q) := by
  rw [vc_q (o := (20, 0, 160, 0, [])) (by decide +kernel)]; rfl
theorem v_60_155 (xs : Option (List Int32)) (n : Nat) (b : Bool) (d : Nat) (ml : List Value) (t : T) (Q : Option Value → T → Prop) (st : List Value) : vc xs zH_60 (n + 1) b d 60 155 ml st t Q = vgi ml 1 (fun v => vc xs zH_60 n true d 60 156 ml (.int v :: st) t Q) := by
  rw [vc_q (o := (1, 0, 1, 0, [])) (by decide +kernel)]; rfl
theorem v_60_156 (xs : Option (List Int32)) (n : Nat) (b : Bool) (d : Nat) (ml : List Value) (t : T) (Q : Option Value → T → Prop) (st : List Value) : vc xs zH_60 (n + 1) b d 60 156 ml st t Q = vc xs zH_60 n true d 60 157 ml (.int 5 :: st) t Q := by
  rw [vc_q (o := (0, 5, 0, 0, [])) (by decide +kernel)]; rfl
theorem v_60_157 (xs : Option (List Int32)) (n : Nat) (b : Bool) (d : Nat) (ml : List Value) (t : T) (Q : Option Value → T → Prop) (u v : Int32) (r : List Value) : vc xs zH_60 (n + 1) b d 60 157 ml (.int v :: .int u :: r) t Q = (if u = v then vc xs zH_60 n true d 60 160 ml r t Q else vc xs zH_60 n true d 60 174 ml r t Q) := by
  rw [vc_q (o := (20, 0, 174, 1, [])) (by decide +kernel)]; rfl
theorem v_60_160 (xs : Option (List Int32)) (n : Nat) (b : Bool) (d : Nat) (ml : List Value) (t : T) (Q : Option Value → T → Prop) (st : List Value) : vc xs zH_60 (n + 1) b d 60 160 ml st t Q = vga ml 0 (fun v => vc xs zH_60 n true d 60 161 ml (.ref v :: st) t Q) := by
  rw [vc_q (o := (2, 0, 0, 0, [])) (by decide +kernel)]; rfl
theorem v_60_161 (xs : Option (List Int32)) (n : Nat) (b : Bool) (d : Nat) (ml : List Value) (t : T) (Q : Option Value → T → Prop) (u : Nat) (r : List Value) : vc xs zH_60 (n + 1) b d 60 161 ml (.ref u :: r) t Q = (vtag u = 12 ∧ vc xs zH_60 n true d 60 164 ml (.ref (tref t u 9) :: r) t Q) := by
  rw [vc_q (o := (25, 0, 12, 9, [])) (by decide +kernel)]; rfl
theorem v_60_164 (xs : Option (List Int32)) (n : Nat) (b : Bool) (d : Nat) (ml : List Value) (t : T) (Q : Option Value → T → Prop) (st : List Value) : vc xs zH_60 (n + 1) b d 60 164 ml st t Q = vgi ml 5 (fun v => vc xs zH_60 n true d 60 166 ml (.int v :: st) t Q) := by
  rw [vc_q (o := (1, 0, 5, 1, [])) (by decide +kernel)]; rfl
theorem v_60_166 (xs : Option (List Int32)) (n : Nat) (b : Bool) (d : Nat) (ml : List Value) (t : T) (Q : Option Value → T → Prop) (v : Int32) (u : Nat) (r : List Value) : vc xs zH_60 (n + 1) b d 60 166 ml (.int v :: .ref u :: r) t Q = ((vtag u = 101 ∨ vtag u = 102) ∧ vinb v (vlen u) ∧ vc xs zH_60 n true d 60 167 ml (.int (t.1 u v.toNatClampNeg) :: r) t Q) := by
  rw [vc_q (o := (30, 0, 0, 0, [])) (by decide +kernel)]; rfl
theorem v_60_167 (xs : Option (List Int32)) (n : Nat) (b : Bool) (d : Nat) (ml : List Value) (t : T) (Q : Option Value → T → Prop) (u : Int32) (r : List Value) : vc xs zH_60 (n + 1) b d 60 167 ml (.int u :: r) t Q = (if u = 0 then vc xs zH_60 n true d 60 174 ml r t Q else vc xs zH_60 n true d 60 170 ml r t Q) := by
  rw [vc_q (o := (21, 0, 174, 0, [])) (by decide +kernel)]; rfl
theorem v_60_170 (xs : Option (List Int32)) (n : Nat) (b : Bool) (d : Nat) (ml : List Value) (t : T) (Q : Option Value → T → Prop) (st : List Value) : vc xs zH_60 (n + 1) b d 60 170 ml st t Q = vc xs zH_60 n true d 60 171 ml (.int 1 :: st) t Q := by
  rw [vc_q (o := (0, 1, 0, 0, [])) (by decide +kernel)]; rfl
theorem v_60_171 (xs : Option (List Int32)) (n : Nat) (b : Bool) (d : Nat) (ml : List Value) (t : T) (Q : Option Value → T → Prop) (st : List Value) : vc xs zH_60 (n + 1) b d 60 171 ml st t Q = vc xs zH_60 n true d 60 175 ml st t Q := by
  rw [vc_q (o := (22, 0, 175, 0, [])) (by decide +kernel)]; rfl
theorem v_60_174 (xs : Option (List Int32)) (n : Nat) (b : Bool) (d : Nat) (ml : List Value) (t : T) (Q : Option Value → T → Prop) (st : List Value) : vc xs zH_60 (n + 1) b d 60 174 ml st t Q = vc xs zH_60 n true d 60 175 ml (.int 0 :: st) t Q := by
  rw [vc_q (o := (0, 0, 0, 0, [])) (by decide +kernel)]; rfl
theorem v_60_175 (xs : Option (List Int32)) (n : Nat) (d : Nat) (ml : List Value) (t : T) (Q : Option Value → T → Prop) (w v : Int32) (u : Nat) (r : List Value) : vc xs zH_60 (n + 1) false d 60 175 ml (.int w :: .int v :: .ref u :: r) t Q = (vinb v (vlen u) ∧ if vtag u = 101 then vc xs zH_60 n true d 60 176 ml r (tsi t u v.toNatClampNeg w.toInt8.toInt32) Q else (vtag u = 102 ∧ (w = 0 ∨ w = 1) ∧ vc xs zH_60 n true d 60 176 ml r (tsi t u v.toNatClampNeg w) Q)) := by
  rw [vc_q (o := (33, 0, 0, 0, [])) (by decide +kernel)]; rfl
theorem h_60_175 (xs : Option (List Int32)) (n d : Nat) (ml st : List Value) (t : T) (Q : Option Value → T → Prop) : vc xs zH_60 (n + 1) true d 60 175 ml st t Q = twp xs d 60 175 ml st t Q := id rfl
theorem v_60_176 (xs : Option (List Int32)) (n : Nat) (b : Bool) (d : Nat) (ml : List Value) (t : T) (Q : Option Value → T → Prop) (st : List Value) : vc xs zH_60 (n + 1) b d 60 176 ml st t Q = vga ml 0 (fun v => vc xs zH_60 n true d 60 177 ml (.ref v :: st) t Q) := by
  rw [vc_q (o := (2, 0, 0, 0, [])) (by decide +kernel)]; rfl
theorem v_60_177_int (xs : Option (List Int32)) (n : Nat) (b : Bool) (d : Nat) (ml : List Value) (t : T) (Q : Option Value → T → Prop) (v : Int32) (r : List Value) : vc xs zH_60 (n + 1) b d 60 177 ml (.int v :: r) t Q = vc xs zH_60 n true d 60 178 ml (.int v :: .int v :: r) t Q := by
  rw [vc_q (o := (17, 0, 0, 0, [])) (by decide +kernel)]; rfl
theorem v_60_177_ref (xs : Option (List Int32)) (n : Nat) (b : Bool) (d : Nat) (ml : List Value) (t : T) (Q : Option Value → T → Prop) (v : Nat) (r : List Value) : vc xs zH_60 (n + 1) b d 60 177 ml (.ref v :: r) t Q = vc xs zH_60 n true d 60 178 ml (.ref v :: .ref v :: r) t Q := by
  rw [vc_q (o := (17, 0, 0, 0, [])) (by decide +kernel)]; rfl
theorem v_60_178 (xs : Option (List Int32)) (n : Nat) (b : Bool) (d : Nat) (ml : List Value) (t : T) (Q : Option Value → T → Prop) (u : Nat) (r : List Value) : vc xs zH_60 (n + 1) b d 60 178 ml (.ref u :: r) t Q = (vtag u = 12 ∧ vc xs zH_60 n true d 60 181 ml (.int (t.1 u 1) :: r) t Q) := by
  rw [vc_q (o := (24, 0, 12, 1, [])) (by decide +kernel)]; rfl
theorem v_60_181 (xs : Option (List Int32)) (n : Nat) (b : Bool) (d : Nat) (ml : List Value) (t : T) (Q : Option Value → T → Prop) (st : List Value) : vc xs zH_60 (n + 1) b d 60 181 ml st t Q = vc xs zH_60 n true d 60 182 ml (.int 1 :: st) t Q := by
  rw [vc_q (o := (0, 1, 0, 0, [])) (by decide +kernel)]; rfl
theorem v_60_182 (xs : Option (List Int32)) (n : Nat) (b : Bool) (d : Nat) (ml : List Value) (t : T) (Q : Option Value → T → Prop) (u v : Int32) (r : List Value) : vc xs zH_60 (n + 1) b d 60 182 ml (.int v :: .int u :: r) t Q = vc xs zH_60 n true d 60 183 ml (.int (u + v) :: r) t Q := by
  rw [vc_q (o := (6, 0, 0, 0, [])) (by decide +kernel)]; rfl
theorem v_60_183 (xs : Option (List Int32)) (n : Nat) (b : Bool) (d : Nat) (ml : List Value) (t : T) (Q : Option Value → T → Prop) (v : Int32) (u : Nat) (r : List Value) : vc xs zH_60 (n + 1) b d 60 183 ml (.int v :: .ref u :: r) t Q = (vtag u = 12 ∧ vc xs zH_60 n true d 60 186 ml r (tsi t u 1 v) Q) := by
  rw [vc_q (o := (26, 0, 12, 1, [])) (by decide +kernel)]; rfl
theorem v_60_186 (xs : Option (List Int32)) (n : Nat) (b : Bool) (d : Nat) (ml : List Value) (t : T) (Q : Option Value → T → Prop) (st : List Value) : vc xs zH_60 (n + 1) b d 60 186 ml st t Q = vgi ml 6 (fun v => vc xs zH_60 n true d 60 188 ml (.int v :: st) t Q) := by
  rw [vc_q (o := (1, 0, 6, 1, [])) (by decide +kernel)]; rfl
theorem v_60_188 (xs : Option (List Int32)) (n : Nat) (b : Bool) (d : Nat) (ml : List Value) (t : T) (Q : Option Value → T → Prop) (v : Int32) : vc xs zH_60 (n + 1) b d 60 188 ml [.int v] t Q = Q (some (.int v)) t := by
  rw [vc_q (o := (40, 0, 0, 0, [])) (by decide +kernel)]; rfl
def zH_61 : List Nat := []
theorem v_61_0 (xs : Option (List Int32)) (n : Nat) (b : Bool) (d : Nat) (ml : List Value) (t : T) (Q : Option Value → T → Prop) (st : List Value) : vc xs zH_61 (n + 1) b d 61 0 ml st t Q = vga ml 0 (fun v => vc xs zH_61 n true d 61 1 ml (.ref v :: st) t Q) := by
  rw [vc_q (o := (2, 0, 0, 0, [])) (by decide +kernel)]; rfl
theorem v_61_1 (xs : Option (List Int32)) (n : Nat) (b : Bool) (d : Nat) (ml : List Value) (t : T) (Q : Option Value → T → Prop) (st : List Value) : vc xs zH_61 (n + 1) b d 61 1 ml st t Q = vgi ml 1 (fun v => vc xs zH_61 n true d 61 2 ml (.int v :: st) t Q) := by
  rw [vc_q (o := (1, 0, 1, 0, [])) (by decide +kernel)]; rfl
theorem v_61_2 (xs : Option (List Int32)) (n : Nat) (b : Bool) (d : Nat) (ml : List Value) (t : T) (Q : Option Value → T → Prop) (st : List Value) : vc xs zH_61 (n + 1) b d 61 2 ml st t Q = (st.all zc1 = true ∧ vtk 2 st [] (fun as rest => rest.length ≤ 8 ∧ vrc as 12 (twc d 55 as t (fun r t' => vc xs zH_61 n true d 61 5 ml (r.toList ++ rest) t' Q)))) := by
  rw [vc_q (o := (36, 0, 55, 1, [(0, 12)])) (by decide +kernel)]; rfl
theorem v_61_5 (xs : Option (List Int32)) (n : Nat) (b : Bool) (d : Nat) (ml : List Value) (t : T) (Q : Option Value → T → Prop) (u : Int32) (r : List Value) : vc xs zH_61 (n + 1) b d 61 5 ml (.int u :: r) t Q = (if u = 0 then vc xs zH_61 n true d 61 17 ml r t Q else vc xs zH_61 n true d 61 8 ml r t Q) := by
  rw [vc_q (o := (21, 0, 17, 0, [])) (by decide +kernel)]; rfl
theorem v_61_8 (xs : Option (List Int32)) (n : Nat) (b : Bool) (d : Nat) (ml : List Value) (t : T) (Q : Option Value → T → Prop) (st : List Value) : vc xs zH_61 (n + 1) b d 61 8 ml st t Q = vga ml 0 (fun v => vc xs zH_61 n true d 61 9 ml (.ref v :: st) t Q) := by
  rw [vc_q (o := (2, 0, 0, 0, [])) (by decide +kernel)]; rfl
theorem v_61_9 (xs : Option (List Int32)) (n : Nat) (b : Bool) (d : Nat) (ml : List Value) (t : T) (Q : Option Value → T → Prop) (u : Nat) (r : List Value) : vc xs zH_61 (n + 1) b d 61 9 ml (.ref u :: r) t Q = (vtag u = 12 ∧ vc xs zH_61 n true d 61 12 ml (.ref (tref t u 8) :: r) t Q) := by
  rw [vc_q (o := (25, 0, 12, 8, [])) (by decide +kernel)]; rfl
theorem v_61_12 (xs : Option (List Int32)) (n : Nat) (b : Bool) (d : Nat) (ml : List Value) (t : T) (Q : Option Value → T → Prop) (st : List Value) : vc xs zH_61 (n + 1) b d 61 12 ml st t Q = vgi ml 1 (fun v => vc xs zH_61 n true d 61 13 ml (.int v :: st) t Q) := by
  rw [vc_q (o := (1, 0, 1, 0, [])) (by decide +kernel)]; rfl
theorem v_61_13 (xs : Option (List Int32)) (n : Nat) (b : Bool) (d : Nat) (ml : List Value) (t : T) (Q : Option Value → T → Prop) (v : Int32) (u : Nat) (r : List Value) : vc xs zH_61 (n + 1) b d 61 13 ml (.int v :: .ref u :: r) t Q = (vtag u = 100 ∧ vinb v (vlen u) ∧ vc xs zH_61 n true d 61 14 ml (.int (t.1 u v.toNatClampNeg) :: r) t Q) := by
  rw [vc_q (o := (29, 0, 0, 0, [])) (by decide +kernel)]; rfl
theorem v_61_14 (xs : Option (List Int32)) (n : Nat) (b : Bool) (d : Nat) (ml : List Value) (t : T) (Q : Option Value → T → Prop) (st : List Value) : vc xs zH_61 (n + 1) b d 61 14 ml st t Q = vc xs zH_61 n true d 61 18 ml st t Q := by
  rw [vc_q (o := (22, 0, 18, 0, [])) (by decide +kernel)]; rfl
theorem v_61_17 (xs : Option (List Int32)) (n : Nat) (b : Bool) (d : Nat) (ml : List Value) (t : T) (Q : Option Value → T → Prop) (st : List Value) : vc xs zH_61 (n + 1) b d 61 17 ml st t Q = vc xs zH_61 n true d 61 18 ml (.int (-1) :: st) t Q := by
  rw [vc_q (o := (0, (-1), 0, 0, [])) (by decide +kernel)]; rfl
theorem v_61_18 (xs : Option (List Int32)) (n : Nat) (b : Bool) (d : Nat) (ml : List Value) (t : T) (Q : Option Value → T → Prop) (v : Int32) : vc xs zH_61 (n + 1) b d 61 18 ml [.int v] t Q = Q (some (.int v)) t := by
  rw [vc_q (o := (40, 0, 0, 0, [])) (by decide +kernel)]; rfl
def zH_62 : List Nat := []
theorem v_62_0 (xs : Option (List Int32)) (n : Nat) (b : Bool) (d : Nat) (ml : List Value) (t : T) (Q : Option Value → T → Prop) (st : List Value) : vc xs zH_62 (n + 1) b d 62 0 ml st t Q = vga ml 0 (fun v => vc xs zH_62 n true d 62 1 ml (.ref v :: st) t Q) := by
  rw [vc_q (o := (2, 0, 0, 0, [])) (by decide +kernel)]; rfl
theorem v_62_1 (xs : Option (List Int32)) (n : Nat) (b : Bool) (d : Nat) (ml : List Value) (t : T) (Q : Option Value → T → Prop) (u : Nat) (r : List Value) : vc xs zH_62 (n + 1) b d 62 1 ml (.ref u :: r) t Q = (vtag u = 12 ∧ vc xs zH_62 n true d 62 4 ml (.ref (tref t u 2) :: r) t Q) := by
  rw [vc_q (o := (25, 0, 12, 2, [])) (by decide +kernel)]; rfl
theorem v_62_4 (xs : Option (List Int32)) (n : Nat) (b : Bool) (d : Nat) (ml : List Value) (t : T) (Q : Option Value → T → Prop) (st : List Value) : vc xs zH_62 (n + 1) b d 62 4 ml st t Q = vgi ml 2 (fun v => vc xs zH_62 n true d 62 5 ml (.int v :: st) t Q) := by
  rw [vc_q (o := (1, 0, 2, 0, [])) (by decide +kernel)]; rfl
theorem v_62_5 (xs : Option (List Int32)) (n : Nat) (b : Bool) (d : Nat) (ml : List Value) (t : T) (Q : Option Value → T → Prop) (v : Int32) (u : Nat) (r : List Value) : vc xs zH_62 (n + 1) b d 62 5 ml (.int v :: .ref u :: r) t Q = (vtag u = 100 ∧ vinb v (vlen u) ∧ vc xs zH_62 n true d 62 6 ml (.int (t.1 u v.toNatClampNeg) :: r) t Q) := by
  rw [vc_q (o := (29, 0, 0, 0, [])) (by decide +kernel)]; rfl
theorem v_62_6 (xs : Option (List Int32)) (n : Nat) (b : Bool) (d : Nat) (ml : List Value) (t : T) (Q : Option Value → T → Prop) (u : Int32) (r : List Value) : vc xs zH_62 (n + 1) b d 62 6 ml (.int u :: r) t Q = (if u = 0 then vc xs zH_62 n true d 62 9 ml r t Q else vc xs zH_62 n true d 62 16 ml r t Q) := by
  rw [vc_q (o := (21, 0, 16, 1, [])) (by decide +kernel)]; rfl
theorem v_62_9 (xs : Option (List Int32)) (n : Nat) (b : Bool) (d : Nat) (ml : List Value) (t : T) (Q : Option Value → T → Prop) (st : List Value) : vc xs zH_62 (n + 1) b d 62 9 ml st t Q = vga ml 0 (fun v => vc xs zH_62 n true d 62 10 ml (.ref v :: st) t Q) := by
  rw [vc_q (o := (2, 0, 0, 0, [])) (by decide +kernel)]; rfl
theorem v_62_10 (xs : Option (List Int32)) (n : Nat) (b : Bool) (d : Nat) (ml : List Value) (t : T) (Q : Option Value → T → Prop) (u : Nat) (r : List Value) : vc xs zH_62 (n + 1) b d 62 10 ml (.ref u :: r) t Q = (vtag u = 12 ∧ vc xs zH_62 n true d 62 13 ml (.ref (tref t u 3) :: r) t Q) := by
  rw [vc_q (o := (25, 0, 12, 3, [])) (by decide +kernel)]; rfl
theorem v_62_13 (xs : Option (List Int32)) (n : Nat) (b : Bool) (d : Nat) (ml : List Value) (t : T) (Q : Option Value → T → Prop) (st : List Value) : vc xs zH_62 (n + 1) b d 62 13 ml st t Q = vgi ml 2 (fun v => vc xs zH_62 n true d 62 14 ml (.int v :: st) t Q) := by
  rw [vc_q (o := (1, 0, 2, 0, [])) (by decide +kernel)]; rfl
theorem v_62_14 (xs : Option (List Int32)) (n : Nat) (b : Bool) (d : Nat) (ml : List Value) (t : T) (Q : Option Value → T → Prop) (v : Int32) (u : Nat) (r : List Value) : vc xs zH_62 (n + 1) b d 62 14 ml (.int v :: .ref u :: r) t Q = (vtag u = 100 ∧ vinb v (vlen u) ∧ vc xs zH_62 n true d 62 15 ml (.int (t.1 u v.toNatClampNeg) :: r) t Q) := by
  rw [vc_q (o := (29, 0, 0, 0, [])) (by decide +kernel)]; rfl
theorem v_62_15 (xs : Option (List Int32)) (n : Nat) (b : Bool) (d : Nat) (ml : List Value) (t : T) (Q : Option Value → T → Prop) (v : Int32) : vc xs zH_62 (n + 1) b d 62 15 ml [.int v] t Q = Q (some (.int v)) t := by
  rw [vc_q (o := (40, 0, 0, 0, [])) (by decide +kernel)]; rfl
theorem v_62_16 (xs : Option (List Int32)) (n : Nat) (b : Bool) (d : Nat) (ml : List Value) (t : T) (Q : Option Value → T → Prop) (st : List Value) : vc xs zH_62 (n + 1) b d 62 16 ml st t Q = vga ml 0 (fun v => vc xs zH_62 n true d 62 17 ml (.ref v :: st) t Q) := by
  rw [vc_q (o := (2, 0, 0, 0, [])) (by decide +kernel)]; rfl
theorem v_62_17 (xs : Option (List Int32)) (n : Nat) (b : Bool) (d : Nat) (ml : List Value) (t : T) (Q : Option Value → T → Prop) (u : Nat) (r : List Value) : vc xs zH_62 (n + 1) b d 62 17 ml (.ref u :: r) t Q = (vtag u = 12 ∧ vc xs zH_62 n true d 62 20 ml (.ref (tref t u 2) :: r) t Q) := by
  rw [vc_q (o := (25, 0, 12, 2, [])) (by decide +kernel)]; rfl
theorem v_62_20 (xs : Option (List Int32)) (n : Nat) (b : Bool) (d : Nat) (ml : List Value) (t : T) (Q : Option Value → T → Prop) (st : List Value) : vc xs zH_62 (n + 1) b d 62 20 ml st t Q = vgi ml 2 (fun v => vc xs zH_62 n true d 62 21 ml (.int v :: st) t Q) := by
  rw [vc_q (o := (1, 0, 2, 0, [])) (by decide +kernel)]; rfl
theorem v_62_21 (xs : Option (List Int32)) (n : Nat) (b : Bool) (d : Nat) (ml : List Value) (t : T) (Q : Option Value → T → Prop) (v : Int32) (u : Nat) (r : List Value) : vc xs zH_62 (n + 1) b d 62 21 ml (.int v :: .ref u :: r) t Q = (vtag u = 100 ∧ vinb v (vlen u) ∧ vc xs zH_62 n true d 62 22 ml (.int (t.1 u v.toNatClampNeg) :: r) t Q) := by
  rw [vc_q (o := (29, 0, 0, 0, [])) (by decide +kernel)]; rfl
theorem v_62_22 (xs : Option (List Int32)) (n : Nat) (b : Bool) (d : Nat) (ml : List Value) (t : T) (Q : Option Value → T → Prop) (st : List Value) : vc xs zH_62 (n + 1) b d 62 22 ml st t Q = vc xs zH_62 n true d 62 23 ml (.int 2 :: st) t Q := by
  rw [vc_q (o := (0, 2, 0, 0, [])) (by decide +kernel)]; rfl
theorem v_62_23 (xs : Option (List Int32)) (n : Nat) (b : Bool) (d : Nat) (ml : List Value) (t : T) (Q : Option Value → T → Prop) (u v : Int32) (r : List Value) : vc xs zH_62 (n + 1) b d 62 23 ml (.int v :: .int u :: r) t Q = (if u = v then vc xs zH_62 n true d 62 26 ml r t Q else vc xs zH_62 n true d 62 56 ml r t Q) := by
  rw [vc_q (o := (20, 0, 56, 1, [])) (by decide +kernel)]; rfl
theorem v_62_26 (xs : Option (List Int32)) (n : Nat) (b : Bool) (d : Nat) (ml : List Value) (t : T) (Q : Option Value → T → Prop) (st : List Value) : vc xs zH_62 (n + 1) b d 62 26 ml st t Q = vga ml 0 (fun v => vc xs zH_62 n true d 62 27 ml (.ref v :: st) t Q) := by
  rw [vc_q (o := (2, 0, 0, 0, [])) (by decide +kernel)]; rfl
theorem v_62_27 (xs : Option (List Int32)) (n : Nat) (b : Bool) (d : Nat) (ml : List Value) (t : T) (Q : Option Value → T → Prop) (st : List Value) : vc xs zH_62 (n + 1) b d 62 27 ml st t Q = vgi ml 1 (fun v => vc xs zH_62 n true d 62 28 ml (.int v :: st) t Q) := by
  rw [vc_q (o := (1, 0, 1, 0, [])) (by decide +kernel)]; rfl
theorem v_62_28 (xs : Option (List Int32)) (n : Nat) (b : Bool) (d : Nat) (ml : List Value) (t : T) (Q : Option Value → T → Prop) (st : List Value) : vc xs zH_62 (n + 1) b d 62 28 ml st t Q = vc xs zH_62 n true d 62 30 ml (.int 8 :: st) t Q := by
  rw [vc_q (o := (0, 8, 1, 0, [])) (by decide +kernel)]; rfl
theorem v_62_30 (xs : Option (List Int32)) (n : Nat) (b : Bool) (d : Nat) (ml : List Value) (t : T) (Q : Option Value → T → Prop) (st : List Value) : vc xs zH_62 (n + 1) b d 62 30 ml st t Q = vga ml 0 (fun v => vc xs zH_62 n true d 62 31 ml (.ref v :: st) t Q) := by
  rw [vc_q (o := (2, 0, 0, 0, [])) (by decide +kernel)]; rfl
theorem v_62_31 (xs : Option (List Int32)) (n : Nat) (b : Bool) (d : Nat) (ml : List Value) (t : T) (Q : Option Value → T → Prop) (u : Nat) (r : List Value) : vc xs zH_62 (n + 1) b d 62 31 ml (.ref u :: r) t Q = (vtag u = 12 ∧ vc xs zH_62 n true d 62 34 ml (.ref (tref t u 27) :: r) t Q) := by
  rw [vc_q (o := (25, 0, 12, 27, [])) (by decide +kernel)]; rfl
theorem v_62_34 (xs : Option (List Int32)) (n : Nat) (b : Bool) (d : Nat) (ml : List Value) (t : T) (Q : Option Value → T → Prop) (st : List Value) : vc xs zH_62 (n + 1) b d 62 34 ml st t Q = vga ml 0 (fun v => vc xs zH_62 n true d 62 35 ml (.ref v :: st) t Q) := by
  rw [vc_q (o := (2, 0, 0, 0, [])) (by decide +kernel)]; rfl
theorem v_62_35 (xs : Option (List Int32)) (n : Nat) (b : Bool) (d : Nat) (ml : List Value) (t : T) (Q : Option Value → T → Prop) (u : Nat) (r : List Value) : vc xs zH_62 (n + 1) b d 62 35 ml (.ref u :: r) t Q = (vtag u = 12 ∧ vc xs zH_62 n true d 62 38 ml (.ref (tref t u 4) :: r) t Q) := by
  rw [vc_q (o := (25, 0, 12, 4, [])) (by decide +kernel)]; rfl
theorem v_62_38 (xs : Option (List Int32)) (n : Nat) (b : Bool) (d : Nat) (ml : List Value) (t : T) (Q : Option Value → T → Prop) (st : List Value) : vc xs zH_62 (n + 1) b d 62 38 ml st t Q = vgi ml 2 (fun v => vc xs zH_62 n true d 62 39 ml (.int v :: st) t Q) := by
  rw [vc_q (o := (1, 0, 2, 0, [])) (by decide +kernel)]; rfl
theorem v_62_39 (xs : Option (List Int32)) (n : Nat) (b : Bool) (d : Nat) (ml : List Value) (t : T) (Q : Option Value → T → Prop) (v : Int32) (u : Nat) (r : List Value) : vc xs zH_62 (n + 1) b d 62 39 ml (.int v :: .ref u :: r) t Q = (vtag u = 100 ∧ vinb v (vlen u) ∧ vc xs zH_62 n true d 62 40 ml (.int (t.1 u v.toNatClampNeg) :: r) t Q) := by
  rw [vc_q (o := (29, 0, 0, 0, [])) (by decide +kernel)]; rfl
theorem v_62_40 (xs : Option (List Int32)) (n : Nat) (b : Bool) (d : Nat) (ml : List Value) (t : T) (Q : Option Value → T → Prop) (v : Int32) (u : Nat) (r : List Value) : vc xs zH_62 (n + 1) b d 62 40 ml (.int v :: .ref u :: r) t Q = (vtag u = 100 ∧ vinb v (vlen u) ∧ vc xs zH_62 n true d 62 41 ml (.int (t.1 u v.toNatClampNeg) :: r) t Q) := by
  rw [vc_q (o := (29, 0, 0, 0, [])) (by decide +kernel)]; rfl
theorem v_62_41 (xs : Option (List Int32)) (n : Nat) (b : Bool) (d : Nat) (ml : List Value) (t : T) (Q : Option Value → T → Prop) (st : List Value) : vc xs zH_62 (n + 1) b d 62 41 ml st t Q = vga ml 0 (fun v => vc xs zH_62 n true d 62 42 ml (.ref v :: st) t Q) := by
  rw [vc_q (o := (2, 0, 0, 0, [])) (by decide +kernel)]; rfl
theorem v_62_42 (xs : Option (List Int32)) (n : Nat) (b : Bool) (d : Nat) (ml : List Value) (t : T) (Q : Option Value → T → Prop) (u : Nat) (r : List Value) : vc xs zH_62 (n + 1) b d 62 42 ml (.ref u :: r) t Q = (vtag u = 12 ∧ vc xs zH_62 n true d 62 45 ml (.ref (tref t u 27) :: r) t Q) := by
  rw [vc_q (o := (25, 0, 12, 27, [])) (by decide +kernel)]; rfl
theorem v_62_45 (xs : Option (List Int32)) (n : Nat) (b : Bool) (d : Nat) (ml : List Value) (t : T) (Q : Option Value → T → Prop) (st : List Value) : vc xs zH_62 (n + 1) b d 62 45 ml st t Q = vga ml 0 (fun v => vc xs zH_62 n true d 62 46 ml (.ref v :: st) t Q) := by
  rw [vc_q (o := (2, 0, 0, 0, [])) (by decide +kernel)]; rfl
theorem v_62_46 (xs : Option (List Int32)) (n : Nat) (b : Bool) (d : Nat) (ml : List Value) (t : T) (Q : Option Value → T → Prop) (u : Nat) (r : List Value) : vc xs zH_62 (n + 1) b d 62 46 ml (.ref u :: r) t Q = (vtag u = 12 ∧ vc xs zH_62 n true d 62 49 ml (.ref (tref t u 5) :: r) t Q) := by
  rw [vc_q (o := (25, 0, 12, 5, [])) (by decide +kernel)]; rfl
theorem v_62_49 (xs : Option (List Int32)) (n : Nat) (b : Bool) (d : Nat) (ml : List Value) (t : T) (Q : Option Value → T → Prop) (st : List Value) : vc xs zH_62 (n + 1) b d 62 49 ml st t Q = vgi ml 2 (fun v => vc xs zH_62 n true d 62 50 ml (.int v :: st) t Q) := by
  rw [vc_q (o := (1, 0, 2, 0, [])) (by decide +kernel)]; rfl
theorem v_62_50 (xs : Option (List Int32)) (n : Nat) (b : Bool) (d : Nat) (ml : List Value) (t : T) (Q : Option Value → T → Prop) (v : Int32) (u : Nat) (r : List Value) : vc xs zH_62 (n + 1) b d 62 50 ml (.int v :: .ref u :: r) t Q = (vtag u = 100 ∧ vinb v (vlen u) ∧ vc xs zH_62 n true d 62 51 ml (.int (t.1 u v.toNatClampNeg) :: r) t Q) := by
  rw [vc_q (o := (29, 0, 0, 0, [])) (by decide +kernel)]; rfl
theorem v_62_51 (xs : Option (List Int32)) (n : Nat) (b : Bool) (d : Nat) (ml : List Value) (t : T) (Q : Option Value → T → Prop) (v : Int32) (u : Nat) (r : List Value) : vc xs zH_62 (n + 1) b d 62 51 ml (.int v :: .ref u :: r) t Q = (vtag u = 100 ∧ vinb v (vlen u) ∧ vc xs zH_62 n true d 62 52 ml (.int (t.1 u v.toNatClampNeg) :: r) t Q) := by
  rw [vc_q (o := (29, 0, 0, 0, [])) (by decide +kernel)]; rfl
theorem v_62_52 (xs : Option (List Int32)) (n : Nat) (b : Bool) (d : Nat) (ml : List Value) (t : T) (Q : Option Value → T → Prop) (st : List Value) : vc xs zH_62 (n + 1) b d 62 52 ml st t Q = (st.all zc1 = true ∧ vtk 5 st [] (fun as rest => rest.length ≤ 8 ∧ vrc as 12 (twc d 43 as t (fun r t' => vc xs zH_62 n true d 62 55 ml (r.toList ++ rest) t' Q)))) := by
  rw [vc_q (o := (36, 0, 43, 4, [(0, 12)])) (by decide +kernel)]; rfl
theorem v_62_55 (xs : Option (List Int32)) (n : Nat) (b : Bool) (d : Nat) (ml : List Value) (t : T) (Q : Option Value → T → Prop) (v : Int32) : vc xs zH_62 (n + 1) b d 62 55 ml [.int v] t Q = Q (some (.int v)) t := by
  rw [vc_q (o := (40, 0, 0, 0, [])) (by decide +kernel)]; rfl
theorem v_62_56 (xs : Option (List Int32)) (n : Nat) (b : Bool) (d : Nat) (ml : List Value) (t : T) (Q : Option Value → T → Prop) (st : List Value) : vc xs zH_62 (n + 1) b d 62 56 ml st t Q = vga ml 0 (fun v => vc xs zH_62 n true d 62 57 ml (.ref v :: st) t Q) := by
  rw [vc_q (o := (2, 0, 0, 0, [])) (by decide +kernel)]; rfl
theorem v_62_57 (xs : Option (List Int32)) (n : Nat) (b : Bool) (d : Nat) (ml : List Value) (t : T) (Q : Option Value → T → Prop) (u : Nat) (r : List Value) : vc xs zH_62 (n + 1) b d 62 57 ml (.ref u :: r) t Q = (vtag u = 12 ∧ vc xs zH_62 n true d 62 60 ml (.ref (tref t u 3) :: r) t Q) := by
  rw [vc_q (o := (25, 0, 12, 3, [])) (by decide +kernel)]; rfl
theorem v_62_60 (xs : Option (List Int32)) (n : Nat) (b : Bool) (d : Nat) (ml : List Value) (t : T) (Q : Option Value → T → Prop) (st : List Value) : vc xs zH_62 (n + 1) b d 62 60 ml st t Q = vgi ml 2 (fun v => vc xs zH_62 n true d 62 61 ml (.int v :: st) t Q) := by
  rw [vc_q (o := (1, 0, 2, 0, [])) (by decide +kernel)]; rfl
theorem v_62_61 (xs : Option (List Int32)) (n : Nat) (b : Bool) (d : Nat) (ml : List Value) (t : T) (Q : Option Value → T → Prop) (v : Int32) (u : Nat) (r : List Value) : vc xs zH_62 (n + 1) b d 62 61 ml (.int v :: .ref u :: r) t Q = (vtag u = 100 ∧ vinb v (vlen u) ∧ vc xs zH_62 n true d 62 62 ml (.int (t.1 u v.toNatClampNeg) :: r) t Q) := by
  rw [vc_q (o := (29, 0, 0, 0, [])) (by decide +kernel)]; rfl
theorem v_62_62 (xs : Option (List Int32)) (n : Nat) (b : Bool) (d : Nat) (ml : List Value) (t : T) (Q : Option Value → T → Prop) (v : Int32) (r : List Value) : vc xs zH_62 (n + 1) b d 62 62 ml (.int v :: r) t Q = vset ml 3 (.int v) (fun l => vc xs zH_62 n true d 62 63 l r t Q) := by
  rw [vc_q (o := (3, 0, 3, 0, [])) (by decide +kernel)]; rfl
theorem v_62_63 (xs : Option (List Int32)) (n : Nat) (b : Bool) (d : Nat) (ml : List Value) (t : T) (Q : Option Value → T → Prop) (st : List Value) : vc xs zH_62 (n + 1) b d 62 63 ml st t Q = vgi ml 3 (fun v => vc xs zH_62 n true d 62 64 ml (.int v :: st) t Q) := by
  rw [vc_q (o := (1, 0, 3, 0, [])) (by decide +kernel)]; rfl
theorem v_62_64 (xs : Option (List Int32)) (n : Nat) (b : Bool) (d : Nat) (ml : List Value) (t : T) (Q : Option Value → T → Prop) (st : List Value) : vc xs zH_62 (n + 1) b d 62 64 ml st t Q = vc xs zH_62 n true d 62 65 ml (.int 2 :: st) t Q := by
  rw [vc_q (o := (0, 2, 0, 0, [])) (by decide +kernel)]; rfl
theorem v_62_65 (xs : Option (List Int32)) (n : Nat) (b : Bool) (d : Nat) (ml : List Value) (t : T) (Q : Option Value → T → Prop) (u v : Int32) (r : List Value) : vc xs zH_62 (n + 1) b d 62 65 ml (.int v :: .int u :: r) t Q = (if u < v then vc xs zH_62 n true d 62 68 ml r t Q else vc xs zH_62 n true d 62 79 ml r t Q) := by
  rw [vc_q (o := (20, 0, 79, 3, [])) (by decide +kernel)]; rfl
theorem v_62_68 (xs : Option (List Int32)) (n : Nat) (b : Bool) (d : Nat) (ml : List Value) (t : T) (Q : Option Value → T → Prop) (st : List Value) : vc xs zH_62 (n + 1) b d 62 68 ml st t Q = vga ml 0 (fun v => vc xs zH_62 n true d 62 69 ml (.ref v :: st) t Q) := by
  rw [vc_q (o := (2, 0, 0, 0, [])) (by decide +kernel)]; rfl
theorem v_62_69 (xs : Option (List Int32)) (n : Nat) (b : Bool) (d : Nat) (ml : List Value) (t : T) (Q : Option Value → T → Prop) (st : List Value) : vc xs zH_62 (n + 1) b d 62 69 ml st t Q = vgi ml 1 (fun v => vc xs zH_62 n true d 62 70 ml (.int v :: st) t Q) := by
  rw [vc_q (o := (1, 0, 1, 0, [])) (by decide +kernel)]; rfl
theorem v_62_70 (xs : Option (List Int32)) (n : Nat) (b : Bool) (d : Nat) (ml : List Value) (t : T) (Q : Option Value → T → Prop) (st : List Value) : vc xs zH_62 (n + 1) b d 62 70 ml st t Q = vgi ml 3 (fun v => vc xs zH_62 n true d 62 71 ml (.int v :: st) t Q) := by
  rw [vc_q (o := (1, 0, 3, 0, [])) (by decide +kernel)]; rfl
theorem v_62_71 (xs : Option (List Int32)) (n : Nat) (b : Bool) (d : Nat) (ml : List Value) (t : T) (Q : Option Value → T → Prop) (st : List Value) : vc xs zH_62 (n + 1) b d 62 71 ml st t Q = vc xs zH_62 n true d 62 72 ml (.int 0 :: st) t Q := by
  rw [vc_q (o := (0, 0, 0, 0, [])) (by decide +kernel)]; rfl
theorem v_62_72 (xs : Option (List Int32)) (n : Nat) (b : Bool) (d : Nat) (ml : List Value) (t : T) (Q : Option Value → T → Prop) (st : List Value) : vc xs zH_62 (n + 1) b d 62 72 ml st t Q = vc xs zH_62 n true d 62 73 ml (.int 0 :: st) t Q := by
  rw [vc_q (o := (0, 0, 0, 0, [])) (by decide +kernel)]; rfl
theorem v_62_73 (xs : Option (List Int32)) (n : Nat) (b : Bool) (d : Nat) (ml : List Value) (t : T) (Q : Option Value → T → Prop) (st : List Value) : vc xs zH_62 (n + 1) b d 62 73 ml st t Q = (st.all zc1 = true ∧ vtk 5 st [] (fun as rest => rest.length ≤ 8 ∧ vrc as 12 (twc d 43 as t (fun r t' => vc xs zH_62 n true d 62 76 ml (r.toList ++ rest) t' Q)))) := by
  rw [vc_q (o := (36, 0, 43, 4, [(0, 12)])) (by decide +kernel)]; rfl
theorem v_62_76 (xs : Option (List Int32)) (n : Nat) (b : Bool) (d : Nat) (ml : List Value) (t : T) (Q : Option Value → T → Prop) (st : List Value) : vc xs zH_62 (n + 1) b d 62 76 ml st t Q = vc xs zH_62 n true d 62 134 ml st t Q := by
  rw [vc_q (o := (22, 0, 134, 0, [])) (by decide +kernel)]; rfl
theorem v_62_79 (xs : Option (List Int32)) (n : Nat) (b : Bool) (d : Nat) (ml : List Value) (t : T) (Q : Option Value → T → Prop) (st : List Value) : vc xs zH_62 (n + 1) b d 62 79 ml st t Q = vgi ml 3 (fun v => vc xs zH_62 n true d 62 80 ml (.int v :: st) t Q) := by
  rw [vc_q (o := (1, 0, 3, 0, [])) (by decide +kernel)]; rfl
theorem v_62_80 (xs : Option (List Int32)) (n : Nat) (b : Bool) (d : Nat) (ml : List Value) (t : T) (Q : Option Value → T → Prop) (st : List Value) : vc xs zH_62 (n + 1) b d 62 80 ml st t Q = vc xs zH_62 n true d 62 82 ml (.int 6 :: st) t Q := by
  rw [vc_q (o := (0, 6, 1, 0, [])) (by decide +kernel)]; rfl
theorem v_62_82 (xs : Option (List Int32)) (n : Nat) (b : Bool) (d : Nat) (ml : List Value) (t : T) (Q : Option Value → T → Prop) (u v : Int32) (r : List Value) : vc xs zH_62 (n + 1) b d 62 82 ml (.int v :: .int u :: r) t Q = (if u < v then vc xs zH_62 n true d 62 85 ml r t Q else vc xs zH_62 n true d 62 106 ml r t Q) := by
  rw [vc_q (o := (20, 0, 106, 3, [])) (by decide +kernel)]; rfl
theorem v_62_85 (xs : Option (List Int32)) (n : Nat) (b : Bool) (d : Nat) (ml : List Value) (t : T) (Q : Option Value → T → Prop) (st : List Value) : vc xs zH_62 (n + 1) b d 62 85 ml st t Q = vga ml 0 (fun v => vc xs zH_62 n true d 62 86 ml (.ref v :: st) t Q) := by
  rw [vc_q (o := (2, 0, 0, 0, [])) (by decide +kernel)]; rfl
theorem v_62_86 (xs : Option (List Int32)) (n : Nat) (b : Bool) (d : Nat) (ml : List Value) (t : T) (Q : Option Value → T → Prop) (st : List Value) : vc xs zH_62 (n + 1) b d 62 86 ml st t Q = vgi ml 1 (fun v => vc xs zH_62 n true d 62 87 ml (.int v :: st) t Q) := by
  rw [vc_q (o := (1, 0, 1, 0, [])) (by decide +kernel)]; rfl
theorem v_62_87 (xs : Option (List Int32)) (n : Nat) (b : Bool) (d : Nat) (ml : List Value) (t : T) (Q : Option Value → T → Prop) (st : List Value) : vc xs zH_62 (n + 1) b d 62 87 ml st t Q = vgi ml 3 (fun v => vc xs zH_62 n true d 62 88 ml (.int v :: st) t Q) := by
  rw [vc_q (o := (1, 0, 3, 0, [])) (by decide +kernel)]; rfl
theorem v_62_88 (xs : Option (List Int32)) (n : Nat) (b : Bool) (d : Nat) (ml : List Value) (t : T) (Q : Option Value → T → Prop) (st : List Value) : vc xs zH_62 (n + 1) b d 62 88 ml st t Q = vga ml 0 (fun v => vc xs zH_62 n true d 62 89 ml (.ref v :: st) t Q) := by
  rw [vc_q (o := (2, 0, 0, 0, [])) (by decide +kernel)]; rfl
theorem v_62_89 (xs : Option (List Int32)) (n : Nat) (b : Bool) (d : Nat) (ml : List Value) (t : T) (Q : Option Value → T → Prop) (u : Nat) (r : List Value) : vc xs zH_62 (n + 1) b d 62 89 ml (.ref u :: r) t Q = (vtag u = 12 ∧ vc xs zH_62 n true d 62 92 ml (.ref (tref t u 27) :: r) t Q) := by
  rw [vc_q (o := (25, 0, 12, 27, [])) (by decide +kernel)]; rfl
theorem v_62_92 (xs : Option (List Int32)) (n : Nat) (b : Bool) (d : Nat) (ml : List Value) (t : T) (Q : Option Value → T → Prop) (st : List Value) : vc xs zH_62 (n + 1) b d 62 92 ml st t Q = vga ml 0 (fun v => vc xs zH_62 n true d 62 93 ml (.ref v :: st) t Q) := by
  rw [vc_q (o := (2, 0, 0, 0, [])) (by decide +kernel)]; rfl
theorem v_62_93 (xs : Option (List Int32)) (n : Nat) (b : Bool) (d : Nat) (ml : List Value) (t : T) (Q : Option Value → T → Prop) (u : Nat) (r : List Value) : vc xs zH_62 (n + 1) b d 62 93 ml (.ref u :: r) t Q = (vtag u = 12 ∧ vc xs zH_62 n true d 62 96 ml (.ref (tref t u 4) :: r) t Q) := by
  rw [vc_q (o := (25, 0, 12, 4, [])) (by decide +kernel)]; rfl
theorem v_62_96 (xs : Option (List Int32)) (n : Nat) (b : Bool) (d : Nat) (ml : List Value) (t : T) (Q : Option Value → T → Prop) (st : List Value) : vc xs zH_62 (n + 1) b d 62 96 ml st t Q = vgi ml 2 (fun v => vc xs zH_62 n true d 62 97 ml (.int v :: st) t Q) := by
  rw [vc_q (o := (1, 0, 2, 0, [])) (by decide +kernel)]; rfl
theorem v_62_97 (xs : Option (List Int32)) (n : Nat) (b : Bool) (d : Nat) (ml : List Value) (t : T) (Q : Option Value → T → Prop) (v : Int32) (u : Nat) (r : List Value) : vc xs zH_62 (n + 1) b d 62 97 ml (.int v :: .ref u :: r) t Q = (vtag u = 100 ∧ vinb v (vlen u) ∧ vc xs zH_62 n true d 62 98 ml (.int (t.1 u v.toNatClampNeg) :: r) t Q) := by
  rw [vc_q (o := (29, 0, 0, 0, [])) (by decide +kernel)]; rfl
theorem v_62_98 (xs : Option (List Int32)) (n : Nat) (b : Bool) (d : Nat) (ml : List Value) (t : T) (Q : Option Value → T → Prop) (v : Int32) (u : Nat) (r : List Value) : vc xs zH_62 (n + 1) b d 62 98 ml (.int v :: .ref u :: r) t Q = (vtag u = 100 ∧ vinb v (vlen u) ∧ vc xs zH_62 n true d 62 99 ml (.int (t.1 u v.toNatClampNeg) :: r) t Q) := by
  rw [vc_q (o := (29, 0, 0, 0, [])) (by decide +kernel)]; rfl
theorem v_62_99 (xs : Option (List Int32)) (n : Nat) (b : Bool) (d : Nat) (ml : List Value) (t : T) (Q : Option Value → T → Prop) (st : List Value) : vc xs zH_62 (n + 1) b d 62 99 ml st t Q = vc xs zH_62 n true d 62 100 ml (.int 0 :: st) t Q := by
  rw [vc_q (o := (0, 0, 0, 0, [])) (by decide +kernel)]; rfl
theorem v_62_100 (xs : Option (List Int32)) (n : Nat) (b : Bool) (d : Nat) (ml : List Value) (t : T) (Q : Option Value → T → Prop) (st : List Value) : vc xs zH_62 (n + 1) b d 62 100 ml st t Q = (st.all zc1 = true ∧ vtk 5 st [] (fun as rest => rest.length ≤ 8 ∧ vrc as 12 (twc d 43 as t (fun r t' => vc xs zH_62 n true d 62 103 ml (r.toList ++ rest) t' Q)))) := by
  rw [vc_q (o := (36, 0, 43, 4, [(0, 12)])) (by decide +kernel)]; rfl
theorem v_62_103 (xs : Option (List Int32)) (n : Nat) (b : Bool) (d : Nat) (ml : List Value) (t : T) (Q : Option Value → T → Prop) (st : List Value) : vc xs zH_62 (n + 1) b d 62 103 ml st t Q = vc xs zH_62 n true d 62 134 ml st t Q := by
  rw [vc_q (o := (22, 0, 134, 0, [])) (by decide +kernel)]; rfl
theorem v_62_106 (xs : Option (List Int32)) (n : Nat) (b : Bool) (d : Nat) (ml : List Value) (t : T) (Q : Option Value → T → Prop) (st : List Value) : vc xs zH_62 (n + 1) b d 62 106 ml st t Q = vga ml 0 (fun v => vc xs zH_62 n true d 62 107 ml (.ref v :: st) t Q) := by
  rw [vc_q (o := (2, 0, 0, 0, [])) (by decide +kernel)]; rfl
theorem v_62_107 (xs : Option (List Int32)) (n : Nat) (b : Bool) (d : Nat) (ml : List Value) (t : T) (Q : Option Value → T → Prop) (st : List Value) : vc xs zH_62 (n + 1) b d 62 107 ml st t Q = vgi ml 1 (fun v => vc xs zH_62 n true d 62 108 ml (.int v :: st) t Q) := by
  rw [vc_q (o := (1, 0, 1, 0, [])) (by decide +kernel)]; rfl
theorem v_62_108 (xs : Option (List Int32)) (n : Nat) (b : Bool) (d : Nat) (ml : List Value) (t : T) (Q : Option Value → T → Prop) (st : List Value) : vc xs zH_62 (n + 1) b d 62 108 ml st t Q = vgi ml 3 (fun v => vc xs zH_62 n true d 62 109 ml (.int v :: st) t Q) := by
  rw [vc_q (o := (1, 0, 3, 0, [])) (by decide +kernel)]; rfl
theorem v_62_109 (xs : Option (List Int32)) (n : Nat) (b : Bool) (d : Nat) (ml : List Value) (t : T) (Q : Option Value → T → Prop) (st : List Value) : vc xs zH_62 (n + 1) b d 62 109 ml st t Q = vga ml 0 (fun v => vc xs zH_62 n true d 62 110 ml (.ref v :: st) t Q) := by
  rw [vc_q (o := (2, 0, 0, 0, [])) (by decide +kernel)]; rfl
theorem v_62_110 (xs : Option (List Int32)) (n : Nat) (b : Bool) (d : Nat) (ml : List Value) (t : T) (Q : Option Value → T → Prop) (u : Nat) (r : List Value) : vc xs zH_62 (n + 1) b d 62 110 ml (.ref u :: r) t Q = (vtag u = 12 ∧ vc xs zH_62 n true d 62 113 ml (.ref (tref t u 27) :: r) t Q) := by
  rw [vc_q (o := (25, 0, 12, 27, [])) (by decide +kernel)]; rfl
theorem v_62_113 (xs : Option (List Int32)) (n : Nat) (b : Bool) (d : Nat) (ml : List Value) (t : T) (Q : Option Value → T → Prop) (st : List Value) : vc xs zH_62 (n + 1) b d 62 113 ml st t Q = vga ml 0 (fun v => vc xs zH_62 n true d 62 114 ml (.ref v :: st) t Q) := by
  rw [vc_q (o := (2, 0, 0, 0, [])) (by decide +kernel)]; rfl
theorem v_62_114 (xs : Option (List Int32)) (n : Nat) (b : Bool) (d : Nat) (ml : List Value) (t : T) (Q : Option Value → T → Prop) (u : Nat) (r : List Value) : vc xs zH_62 (n + 1) b d 62 114 ml (.ref u :: r) t Q = (vtag u = 12 ∧ vc xs zH_62 n true d 62 117 ml (.ref (tref t u 4) :: r) t Q) := by
  rw [vc_q (o := (25, 0, 12, 4, [])) (by decide +kernel)]; rfl
theorem v_62_117 (xs : Option (List Int32)) (n : Nat) (b : Bool) (d : Nat) (ml : List Value) (t : T) (Q : Option Value → T → Prop) (st : List Value) : vc xs zH_62 (n + 1) b d 62 117 ml st t Q = vgi ml 2 (fun v => vc xs zH_62 n true d 62 118 ml (.int v :: st) t Q) := by
  rw [vc_q (o := (1, 0, 2, 0, [])) (by decide +kernel)]; rfl
theorem v_62_118 (xs : Option (List Int32)) (n : Nat) (b : Bool) (d : Nat) (ml : List Value) (t : T) (Q : Option Value → T → Prop) (v : Int32) (u : Nat) (r : List Value) : vc xs zH_62 (n + 1) b d 62 118 ml (.int v :: .ref u :: r) t Q = (vtag u = 100 ∧ vinb v (vlen u) ∧ vc xs zH_62 n true d 62 119 ml (.int (t.1 u v.toNatClampNeg) :: r) t Q) := by
  rw [vc_q (o := (29, 0, 0, 0, [])) (by decide +kernel)]; rfl
theorem v_62_119 (xs : Option (List Int32)) (n : Nat) (b : Bool) (d : Nat) (ml : List Value) (t : T) (Q : Option Value → T → Prop) (v : Int32) (u : Nat) (r : List Value) : vc xs zH_62 (n + 1) b d 62 119 ml (.int v :: .ref u :: r) t Q = (vtag u = 100 ∧ vinb v (vlen u) ∧ vc xs zH_62 n true d 62 120 ml (.int (t.1 u v.toNatClampNeg) :: r) t Q) := by
  rw [vc_q (o := (29, 0, 0, 0, [])) (by decide +kernel)]; rfl
theorem v_62_120 (xs : Option (List Int32)) (n : Nat) (b : Bool) (d : Nat) (ml : List Value) (t : T) (Q : Option Value → T → Prop) (st : List Value) : vc xs zH_62 (n + 1) b d 62 120 ml st t Q = vga ml 0 (fun v => vc xs zH_62 n true d 62 121 ml (.ref v :: st) t Q) := by
  rw [vc_q (o := (2, 0, 0, 0, [])) (by decide +kernel)]; rfl
theorem v_62_121 (xs : Option (List Int32)) (n : Nat) (b : Bool) (d : Nat) (ml : List Value) (t : T) (Q : Option Value → T → Prop) (u : Nat) (r : List Value) : vc xs zH_62 (n + 1) b d 62 121 ml (.ref u :: r) t Q = (vtag u = 12 ∧ vc xs zH_62 n true d 62 124 ml (.ref (tref t u 27) :: r) t Q) := by
  rw [vc_q (o := (25, 0, 12, 27, [])) (by decide +kernel)]; rfl
theorem v_62_124 (xs : Option (List Int32)) (n : Nat) (b : Bool) (d : Nat) (ml : List Value) (t : T) (Q : Option Value → T → Prop) (st : List Value) : vc xs zH_62 (n + 1) b d 62 124 ml st t Q = vga ml 0 (fun v => vc xs zH_62 n true d 62 125 ml (.ref v :: st) t Q) := by
  rw [vc_q (o := (2, 0, 0, 0, [])) (by decide +kernel)]; rfl
theorem v_62_125 (xs : Option (List Int32)) (n : Nat) (b : Bool) (d : Nat) (ml : List Value) (t : T) (Q : Option Value → T → Prop) (u : Nat) (r : List Value) : vc xs zH_62 (n + 1) b d 62 125 ml (.ref u :: r) t Q = (vtag u = 12 ∧ vc xs zH_62 n true d 62 128 ml (.ref (tref t u 5) :: r) t Q) := by
  rw [vc_q (o := (25, 0, 12, 5, [])) (by decide +kernel)]; rfl
theorem v_62_128 (xs : Option (List Int32)) (n : Nat) (b : Bool) (d : Nat) (ml : List Value) (t : T) (Q : Option Value → T → Prop) (st : List Value) : vc xs zH_62 (n + 1) b d 62 128 ml st t Q = vgi ml 2 (fun v => vc xs zH_62 n true d 62 129 ml (.int v :: st) t Q) := by
  rw [vc_q (o := (1, 0, 2, 0, [])) (by decide +kernel)]; rfl
theorem v_62_129 (xs : Option (List Int32)) (n : Nat) (b : Bool) (d : Nat) (ml : List Value) (t : T) (Q : Option Value → T → Prop) (v : Int32) (u : Nat) (r : List Value) : vc xs zH_62 (n + 1) b d 62 129 ml (.int v :: .ref u :: r) t Q = (vtag u = 100 ∧ vinb v (vlen u) ∧ vc xs zH_62 n true d 62 130 ml (.int (t.1 u v.toNatClampNeg) :: r) t Q) := by
  rw [vc_q (o := (29, 0, 0, 0, [])) (by decide +kernel)]; rfl
theorem v_62_130 (xs : Option (List Int32)) (n : Nat) (b : Bool) (d : Nat) (ml : List Value) (t : T) (Q : Option Value → T → Prop) (v : Int32) (u : Nat) (r : List Value) : vc xs zH_62 (n + 1) b d 62 130 ml (.int v :: .ref u :: r) t Q = (vtag u = 100 ∧ vinb v (vlen u) ∧ vc xs zH_62 n true d 62 131 ml (.int (t.1 u v.toNatClampNeg) :: r) t Q) := by
  rw [vc_q (o := (29, 0, 0, 0, [])) (by decide +kernel)]; rfl
theorem v_62_131 (xs : Option (List Int32)) (n : Nat) (b : Bool) (d : Nat) (ml : List Value) (t : T) (Q : Option Value → T → Prop) (st : List Value) : vc xs zH_62 (n + 1) b d 62 131 ml st t Q = (st.all zc1 = true ∧ vtk 5 st [] (fun as rest => rest.length ≤ 8 ∧ vrc as 12 (twc d 43 as t (fun r t' => vc xs zH_62 n true d 62 134 ml (r.toList ++ rest) t' Q)))) := by
  rw [vc_q (o := (36, 0, 43, 4, [(0, 12)])) (by decide +kernel)]; rfl
theorem v_62_134 (xs : Option (List Int32)) (n : Nat) (b : Bool) (d : Nat) (ml : List Value) (t : T) (Q : Option Value → T → Prop) (v : Int32) : vc xs zH_62 (n + 1) b d 62 134 ml [.int v] t Q = Q (some (.int v)) t := by
  rw [vc_q (o := (40, 0, 0, 0, [])) (by decide +kernel)]; rfl
def zH_63 : List Nat := [2, 29, 37, 55]
theorem v_63_0 (xs : Option (List Int32)) (n : Nat) (b : Bool) (d : Nat) (ml : List Value) (t : T) (Q : Option Value → T → Prop) (st : List Value) : vc xs zH_63 (n + 1) b d 63 0 ml st t Q = vc xs zH_63 n true d 63 1 ml (.int 0 :: st) t Q := by
  rw [vc_q (o := (0, 0, 0, 0, [])) (by decide +kernel)]; rfl
theorem v_63_1 (xs : Option (List Int32)) (n : Nat) (b : Bool) (d : Nat) (ml : List Value) (t : T) (Q : Option Value → T → Prop) (v : Int32) (r : List Value) : vc xs zH_63 (n + 1) b d 63 1 ml (.int v :: r) t Q = vset ml 2 (.int v) (fun l => vc xs zH_63 n true d 63 2 l r t Q) := by
  rw [vc_q (o := (3, 0, 2, 0, [])) (by decide +kernel)]; rfl
theorem v_63_2 (xs : Option (List Int32)) (n : Nat) (d : Nat) (ml : List Value) (t : T) (Q : Option Value → T → Prop) (st : List Value) : vc xs zH_63 (n + 1) false d 63 2 ml st t Q = vgi ml 2 (fun v => vc xs zH_63 n true d 63 3 ml (.int v :: st) t Q) := by
  rw [vc_q (o := (1, 0, 2, 0, [])) (by decide +kernel)]; rfl
theorem h_63_2 (xs : Option (List Int32)) (n d : Nat) (ml st : List Value) (t : T) (Q : Option Value → T → Prop) : vc xs zH_63 (n + 1) true d 63 2 ml st t Q = twp xs d 63 2 ml st t Q := id rfl
theorem v_63_3 (xs : Option (List Int32)) (n : Nat) (b : Bool) (d : Nat) (ml : List Value) (t : T) (Q : Option Value → T → Prop) (st : List Value) : vc xs zH_63 (n + 1) b d 63 3 ml st t Q = vgi ml 1 (fun v => vc xs zH_63 n true d 63 4 ml (.int v :: st) t Q) := by
  rw [vc_q (o := (1, 0, 1, 0, [])) (by decide +kernel)]; rfl
theorem v_63_4 (xs : Option (List Int32)) (n : Nat) (b : Bool) (d : Nat) (ml : List Value) (t : T) (Q : Option Value → T → Prop) (st : List Value) : vc xs zH_63 (n + 1) b d 63 4 ml st t Q = vgi ml 1 (fun v => vc xs zH_63 n true d 63 5 ml (.int v :: st) t Q) := by
  rw [vc_q (o := (1, 0, 1, 0, [])) (by decide +kernel)]; rfl
theorem v_63_5 (xs : Option (List Int32)) (n : Nat) (b : Bool) (d : Nat) (ml : List Value) (t : T) (Q : Option Value → T → Prop) (u v : Int32) (r : List Value) : vc xs zH_63 (n + 1) b d 63 5 ml (.int v :: .int u :: r) t Q = vc xs zH_63 n true d 63 6 ml (.int (u * v) :: r) t Q := by
  rw [vc_q (o := (8, 0, 0, 0, [])) (by decide +kernel)]; rfl
theorem v_63_6 (xs : Option (List Int32)) (n : Nat) (b : Bool) (d : Nat) (ml : List Value) (t : T) (Q : Option Value → T → Prop) (u v : Int32) (r : List Value) : vc xs zH_63 (n + 1) b d 63 6 ml (.int v :: .int u :: r) t Q = (if u < v then vc xs zH_63 n true d 63 9 ml r t Q else vc xs zH_63 n true d 63 27 ml r t Q) := by
  rw [vc_q (o := (20, 0, 27, 3, [])) (by decide +kernel)]; rfl
theorem v_63_9 (xs : Option (List Int32)) (n : Nat) (b : Bool) (d : Nat) (ml : List Value) (t : T) (Q : Option Value → T → Prop) (st : List Value) : vc xs zH_63 (n + 1) b d 63 9 ml st t Q = vga ml 0 (fun v => vc xs zH_63 n true d 63 10 ml (.ref v :: st) t Q) := by
  rw [vc_q (o := (2, 0, 0, 0, [])) (by decide +kernel)]; rfl
theorem v_63_10 (xs : Option (List Int32)) (n : Nat) (b : Bool) (d : Nat) (ml : List Value) (t : T) (Q : Option Value → T → Prop) (u : Nat) (r : List Value) : vc xs zH_63 (n + 1) b d 63 10 ml (.ref u :: r) t Q = (vtag u = 12 ∧ vc xs zH_63 n true d 63 13 ml (.ref (tref t u 34) :: r) t Q) := by
  rw [vc_q (o := (25, 0, 12, 34, [])) (by decide +kernel)]; rfl
theorem v_63_13 (xs : Option (List Int32)) (n : Nat) (b : Bool) (d : Nat) (ml : List Value) (t : T) (Q : Option Value → T → Prop) (st : List Value) : vc xs zH_63 (n + 1) b d 63 13 ml st t Q = vgi ml 2 (fun v => vc xs zH_63 n true d 63 14 ml (.int v :: st) t Q) := by
  rw [vc_q (o := (1, 0, 2, 0, [])) (by decide +kernel)]; rfl
theorem v_63_14 (xs : Option (List Int32)) (n : Nat) (b : Bool) (d : Nat) (ml : List Value) (t : T) (Q : Option Value → T → Prop) (st : List Value) : vc xs zH_63 (n + 1) b d 63 14 ml st t Q = vga ml 0 (fun v => vc xs zH_63 n true d 63 15 ml (.ref v :: st) t Q) := by
  rw [vc_q (o := (2, 0, 0, 0, [])) (by decide +kernel)]; rfl
theorem v_63_15 (xs : Option (List Int32)) (n : Nat) (b : Bool) (d : Nat) (ml : List Value) (t : T) (Q : Option Value → T → Prop) (u : Nat) (r : List Value) : vc xs zH_63 (n + 1) b d 63 15 ml (.ref u :: r) t Q = (vtag u = 12 ∧ vc xs zH_63 n true d 63 18 ml (.ref (tref t u 33) :: r) t Q) := by
  rw [vc_q (o := (25, 0, 12, 33, [])) (by decide +kernel)]; rfl
theorem v_63_18 (xs : Option (List Int32)) (n : Nat) (b : Bool) (d : Nat) (ml : List Value) (t : T) (Q : Option Value → T → Prop) (st : List Value) : vc xs zH_63 (n + 1) b d 63 18 ml st t Q = vgi ml 2 (fun v => vc xs zH_63 n true d 63 19 ml (.int v :: st) t Q) := by
  rw [vc_q (o := (1, 0, 2, 0, [])) (by decide +kernel)]; rfl
theorem v_63_19 (xs : Option (List Int32)) (n : Nat) (b : Bool) (d : Nat) (ml : List Value) (t : T) (Q : Option Value → T → Prop) (v : Int32) (u : Nat) (r : List Value) : vc xs zH_63 (n + 1) b d 63 19 ml (.int v :: .ref u :: r) t Q = (vtag u = 100 ∧ vinb v (vlen u) ∧ vc xs zH_63 n true d 63 20 ml (.int (t.1 u v.toNatClampNeg) :: r) t Q) := by
  rw [vc_q (o := (29, 0, 0, 0, [])) (by decide +kernel)]; rfl
theorem v_63_20 (xs : Option (List Int32)) (n : Nat) (b : Bool) (d : Nat) (ml : List Value) (t : T) (Q : Option Value → T → Prop) (w v : Int32) (u : Nat) (r : List Value) : vc xs zH_63 (n + 1) b d 63 20 ml (.int w :: .int v :: .ref u :: r) t Q = (vtag u = 100 ∧ vinb v (vlen u) ∧ vc xs zH_63 n true d 63 21 ml r (tsi t u v.toNatClampNeg w) Q) := by
  rw [vc_q (o := (32, 0, 0, 0, [])) (by decide +kernel)]; rfl
theorem v_63_21 (xs : Option (List Int32)) (n : Nat) (b : Bool) (d : Nat) (ml : List Value) (t : T) (Q : Option Value → T → Prop) (st : List Value) : vc xs zH_63 (n + 1) b d 63 21 ml st t Q = vgi ml 2 (fun v => vset ml 2 (.int (v + 1)) (fun l => vc xs zH_63 n true d 63 24 l st t Q)) := by
  rw [vc_q (o := (5, 1, 2, 0, [])) (by decide +kernel)]; rfl
theorem v_63_24 (xs : Option (List Int32)) (n : Nat) (b : Bool) (d : Nat) (ml : List Value) (t : T) (Q : Option Value → T → Prop) (st : List Value) : vc xs zH_63 (n + 1) b d 63 24 ml st t Q = vc xs zH_63 n true d 63 2 ml st t Q := by
  rw [vc_q (o := (22, 0, 2, 0, [])) (by decide +kernel)]; rfl
theorem v_63_27 (xs : Option (List Int32)) (n : Nat) (b : Bool) (d : Nat) (ml : List Value) (t : T) (Q : Option Value → T → Prop) (st : List Value) : vc xs zH_63 (n + 1) b d 63 27 ml st t Q = vc xs zH_63 n true d 63 28 ml (.int 1 :: st) t Q := by
  rw [vc_q (o := (0, 1, 0, 0, [])) (by decide +kernel)]; rfl
theorem v_63_28 (xs : Option (List Int32)) (n : Nat) (b : Bool) (d : Nat) (ml : List Value) (t : T) (Q : Option Value → T → Prop) (v : Int32) (r : List Value) : vc xs zH_63 (n + 1) b d 63 28 ml (.int v :: r) t Q = vset ml 2 (.int v) (fun l => vc xs zH_63 n true d 63 29 l r t Q) := by
  rw [vc_q (o := (3, 0, 2, 0, [])) (by decide +kernel)]; rfl
theorem v_63_29 (xs : Option (List Int32)) (n : Nat) (d : Nat) (ml : List Value) (t : T) (Q : Option Value → T → Prop) (st : List Value) : vc xs zH_63 (n + 1) false d 63 29 ml st t Q = vgi ml 2 (fun v => vc xs zH_63 n true d 63 30 ml (.int v :: st) t Q) := by
  rw [vc_q (o := (1, 0, 2, 0, [])) (by decide +kernel)]; rfl
theorem h_63_29 (xs : Option (List Int32)) (n d : Nat) (ml st : List Value) (t : T) (Q : Option Value → T → Prop) : vc xs zH_63 (n + 1) true d 63 29 ml st t Q = twp xs d 63 29 ml st t Q := id rfl
theorem v_63_30 (xs : Option (List Int32)) (n : Nat) (b : Bool) (d : Nat) (ml : List Value) (t : T) (Q : Option Value → T → Prop) (u : Int32) (r : List Value) : vc xs zH_63 (n + 1) b d 63 30 ml (.int u :: r) t Q = (if u = 0 then vc xs zH_63 n true d 63 141 ml r t Q else vc xs zH_63 n true d 63 33 ml r t Q) := by
  rw [vc_q (o := (21, 0, 141, 0, [])) (by decide +kernel)]; rfl
theorem v_63_33 (xs : Option (List Int32)) (n : Nat) (b : Bool) (d : Nat) (ml : List Value) (t : T) (Q : Option Value → T → Prop) (st : List Value) : vc xs zH_63 (n + 1) b d 63 33 ml st t Q = vc xs zH_63 n true d 63 34 ml (.int 0 :: st) t Q := by
  rw [vc_q (o := (0, 0, 0, 0, [])) (by decide +kernel)]; rfl
theorem v_63_34 (xs : Option (List Int32)) (n : Nat) (b : Bool) (d : Nat) (ml : List Value) (t : T) (Q : Option Value → T → Prop) (v : Int32) (r : List Value) : vc xs zH_63 (n + 1) b d 63 34 ml (.int v :: r) t Q = vset ml 2 (.int v) (fun l => vc xs zH_63 n true d 63 35 l r t Q) := by
  rw [vc_q (o := (3, 0, 2, 0, [])) (by decide +kernel)]; rfl
theorem v_63_35 (xs : Option (List Int32)) (n : Nat) (b : Bool) (d : Nat) (ml : List Value) (t : T) (Q : Option Value → T → Prop) (st : List Value) : vc xs zH_63 (n + 1) b d 63 35 ml st t Q = vc xs zH_63 n true d 63 36 ml (.int 0 :: st) t Q := by
  rw [vc_q (o := (0, 0, 0, 0, [])) (by decide +kernel)]; rfl
theorem v_63_36 (xs : Option (List Int32)) (n : Nat) (b : Bool) (d : Nat) (ml : List Value) (t : T) (Q : Option Value → T → Prop) (v : Int32) (r : List Value) : vc xs zH_63 (n + 1) b d 63 36 ml (.int v :: r) t Q = vset ml 3 (.int v) (fun l => vc xs zH_63 n true d 63 37 l r t Q) := by
  rw [vc_q (o := (3, 0, 3, 0, [])) (by decide +kernel)]; rfl
theorem v_63_37 (xs : Option (List Int32)) (n : Nat) (d : Nat) (ml : List Value) (t : T) (Q : Option Value → T → Prop) (st : List Value) : vc xs zH_63 (n + 1) false d 63 37 ml st t Q = vgi ml 3 (fun v => vc xs zH_63 n true d 63 38 ml (.int v :: st) t Q) := by
  rw [vc_q (o := (1, 0, 3, 0, [])) (by decide +kernel)]; rfl
theorem h_63_37 (xs : Option (List Int32)) (n d : Nat) (ml st : List Value) (t : T) (Q : Option Value → T → Prop) : vc xs zH_63 (n + 1) true d 63 37 ml st t Q = twp xs d 63 37 ml st t Q := id rfl
theorem v_63_38 (xs : Option (List Int32)) (n : Nat) (b : Bool) (d : Nat) (ml : List Value) (t : T) (Q : Option Value → T → Prop) (st : List Value) : vc xs zH_63 (n + 1) b d 63 38 ml st t Q = vgi ml 1 (fun v => vc xs zH_63 n true d 63 39 ml (.int v :: st) t Q) := by
  rw [vc_q (o := (1, 0, 1, 0, [])) (by decide +kernel)]; rfl
theorem v_63_39 (xs : Option (List Int32)) (n : Nat) (b : Bool) (d : Nat) (ml : List Value) (t : T) (Q : Option Value → T → Prop) (st : List Value) : vc xs zH_63 (n + 1) b d 63 39 ml st t Q = vgi ml 1 (fun v => vc xs zH_63 n true d 63 40 ml (.int v :: st) t Q) := by
  rw [vc_q (o := (1, 0, 1, 0, [])) (by decide +kernel)]; rfl
theorem v_63_40 (xs : Option (List Int32)) (n : Nat) (b : Bool) (d : Nat) (ml : List Value) (t : T) (Q : Option Value → T → Prop) (u v : Int32) (r : List Value) : vc xs zH_63 (n + 1) b d 63 40 ml (.int v :: .int u :: r) t Q = vc xs zH_63 n true d 63 41 ml (.int (u * v) :: r) t Q := by
  rw [vc_q (o := (8, 0, 0, 0, [])) (by decide +kernel)]; rfl
theorem v_63_41 (xs : Option (List Int32)) (n : Nat) (b : Bool) (d : Nat) (ml : List Value) (t : T) (Q : Option Value → T → Prop) (u v : Int32) (r : List Value) : vc xs zH_63 (n + 1) b d 63 41 ml (.int v :: .int u :: r) t Q = (if u < v then vc xs zH_63 n true d 63 44 ml r t Q else vc xs zH_63 n true d 63 138 ml r t Q) := by
  rw [vc_q (o := (20, 0, 138, 3, [])) (by decide +kernel)]; rfl
theorem v_63_44 (xs : Option (List Int32)) (n : Nat) (b : Bool) (d : Nat) (ml : List Value) (t : T) (Q : Option Value → T → Prop) (st : List Value) : vc xs zH_63 (n + 1) b d 63 44 ml st t Q = vga ml 0 (fun v => vc xs zH_63 n true d 63 45 ml (.ref v :: st) t Q) := by
  rw [vc_q (o := (2, 0, 0, 0, [])) (by decide +kernel)]; rfl
theorem v_63_45 (xs : Option (List Int32)) (n : Nat) (b : Bool) (d : Nat) (ml : List Value) (t : T) (Q : Option Value → T → Prop) (u : Nat) (r : List Value) : vc xs zH_63 (n + 1) b d 63 45 ml (.ref u :: r) t Q = (vtag u = 12 ∧ vc xs zH_63 n true d 63 48 ml (.ref (tref t u 34) :: r) t Q) := by
  rw [vc_q (o := (25, 0, 12, 34, [])) (by decide +kernel)]; rfl
theorem v_63_48 (xs : Option (List Int32)) (n : Nat) (b : Bool) (d : Nat) (ml : List Value) (t : T) (Q : Option Value → T → Prop) (st : List Value) : vc xs zH_63 (n + 1) b d 63 48 ml st t Q = vgi ml 3 (fun v => vc xs zH_63 n true d 63 49 ml (.int v :: st) t Q) := by
  rw [vc_q (o := (1, 0, 3, 0, [])) (by decide +kernel)]; rfl
theorem v_63_49 (xs : Option (List Int32)) (n : Nat) (b : Bool) (d : Nat) (ml : List Value) (t : T) (Q : Option Value → T → Prop) (v : Int32) (u : Nat) (r : List Value) : vc xs zH_63 (n + 1) b d 63 49 ml (.int v :: .ref u :: r) t Q = (vtag u = 100 ∧ vinb v (vlen u) ∧ vc xs zH_63 n true d 63 50 ml (.int (t.1 u v.toNatClampNeg) :: r) t Q) := by
  rw [vc_q (o := (29, 0, 0, 0, [])) (by decide +kernel)]; rfl
theorem v_63_50 (xs : Option (List Int32)) (n : Nat) (b : Bool) (d : Nat) (ml : List Value) (t : T) (Q : Option Value → T → Prop) (v : Int32) (r : List Value) : vc xs zH_63 (n + 1) b d 63 50 ml (.int v :: r) t Q = vset ml 4 (.int v) (fun l => vc xs zH_63 n true d 63 52 l r t Q) := by
  rw [vc_q (o := (3, 0, 4, 1, [])) (by decide +kernel)]; rfl
theorem v_63_52 (xs : Option (List Int32)) (n : Nat) (b : Bool) (d : Nat) (ml : List Value) (t : T) (Q : Option Value → T → Prop) (st : List Value) : vc xs zH_63 (n + 1) b d 63 52 ml st t Q = vc xs zH_63 n true d 63 53 ml (.int 0 :: st) t Q := by
  rw [vc_q (o := (0, 0, 0, 0, [])) (by decide +kernel)]; rfl
theorem v_63_53 (xs : Option (List Int32)) (n : Nat) (b : Bool) (d : Nat) (ml : List Value) (t : T) (Q : Option Value → T → Prop) (v : Int32) (r : List Value) : vc xs zH_63 (n + 1) b d 63 53 ml (.int v :: r) t Q = vset ml 5 (.int v) (fun l => vc xs zH_63 n true d 63 55 l r t Q) := by
  rw [vc_q (o := (3, 0, 5, 1, [])) (by decide +kernel)]; rfl
theorem v_63_55 (xs : Option (List Int32)) (n : Nat) (d : Nat) (ml : List Value) (t : T) (Q : Option Value → T → Prop) (st : List Value) : vc xs zH_63 (n + 1) false d 63 55 ml st t Q = vgi ml 5 (fun v => vc xs zH_63 n true d 63 57 ml (.int v :: st) t Q) := by
  rw [vc_q (o := (1, 0, 5, 1, [])) (by decide +kernel)]; rfl
theorem h_63_55 (xs : Option (List Int32)) (n d : Nat) (ml st : List Value) (t : T) (Q : Option Value → T → Prop) : vc xs zH_63 (n + 1) true d 63 55 ml st t Q = twp xs d 63 55 ml st t Q := id rfl
theorem v_63_57 (xs : Option (List Int32)) (n : Nat) (b : Bool) (d : Nat) (ml : List Value) (t : T) (Q : Option Value → T → Prop) (st : List Value) : vc xs zH_63 (n + 1) b d 63 57 ml st t Q = vgi ml 1 (fun v => vc xs zH_63 n true d 63 58 ml (.int v :: st) t Q) := by
  rw [vc_q (o := (1, 0, 1, 0, [])) (by decide +kernel)]; rfl
theorem v_63_58 (xs : Option (List Int32)) (n : Nat) (b : Bool) (d : Nat) (ml : List Value) (t : T) (Q : Option Value → T → Prop) (u v : Int32) (r : List Value) : vc xs zH_63 (n + 1) b d 63 58 ml (.int v :: .int u :: r) t Q = (if u < v then vc xs zH_63 n true d 63 61 ml r t Q else vc xs zH_63 n true d 63 103 ml r t Q) := by
  rw [vc_q (o := (20, 0, 103, 3, [])) (by decide +kernel)]; rfl
theorem v_63_61 (xs : Option (List Int32)) (n : Nat) (b : Bool) (d : Nat) (ml : List Value) (t : T) (Q : Option Value → T → Prop) (st : List Value) : vc xs zH_63 (n + 1) b d 63 61 ml st t Q = vgi ml 4 (fun v => vc xs zH_63 n true d 63 63 ml (.int v :: st) t Q) := by
  rw [vc_q (o := (1, 0, 4, 1, [])) (by decide +kernel)]; rfl
theorem v_63_63 (xs : Option (List Int32)) (n : Nat) (b : Bool) (d : Nat) (ml : List Value) (t : T) (Q : Option Value → T → Prop) (st : List Value) : vc xs zH_63 (n + 1) b d 63 63 ml st t Q = vga ml 0 (fun v => vc xs zH_63 n true d 63 64 ml (.ref v :: st) t Q) := by
  rw [vc_q (o := (2, 0, 0, 0, [])) (by decide +kernel)]; rfl
theorem v_63_64 (xs : Option (List Int32)) (n : Nat) (b : Bool) (d : Nat) (ml : List Value) (t : T) (Q : Option Value → T → Prop) (u : Nat) (r : List Value) : vc xs zH_63 (n + 1) b d 63 64 ml (.ref u :: r) t Q = (vtag u = 12 ∧ vc xs zH_63 n true d 63 67 ml (.ref (tref t u 34) :: r) t Q) := by
  rw [vc_q (o := (25, 0, 12, 34, [])) (by decide +kernel)]; rfl
theorem v_63_67 (xs : Option (List Int32)) (n : Nat) (b : Bool) (d : Nat) (ml : List Value) (t : T) (Q : Option Value → T → Prop) (st : List Value) : vc xs zH_63 (n + 1) b d 63 67 ml st t Q = vgi ml 3 (fun v => vc xs zH_63 n true d 63 68 ml (.int v :: st) t Q) := by
  rw [vc_q (o := (1, 0, 3, 0, [])) (by decide +kernel)]; rfl
theorem v_63_68 (xs : Option (List Int32)) (n : Nat) (b : Bool) (d : Nat) (ml : List Value) (t : T) (Q : Option Value → T → Prop) (st : List Value) : vc xs zH_63 (n + 1) b d 63 68 ml st t Q = vgi ml 1 (fun v => vc xs zH_63 n true d 63 69 ml (.int v :: st) t Q) := by
  rw [vc_q (o := (1, 0, 1, 0, [])) (by decide +kernel)]; rfl
theorem v_63_69 (xs : Option (List Int32)) (n : Nat) (b : Bool) (d : Nat) (ml : List Value) (t : T) (Q : Option Value → T → Prop) (u v : Int32) (r : List Value) : vc xs zH_63 (n + 1) b d 63 69 ml (.int v :: .int u :: r) t Q = (¬ v = 0 ∧ vc xs zH_63 n true d 63 70 ml (.int (u / v) :: r) t Q) := by
  rw [vc_q (o := (14, 0, 0, 0, [])) (by decide +kernel)]; rfl
theorem v_63_70 (xs : Option (List Int32)) (n : Nat) (b : Bool) (d : Nat) (ml : List Value) (t : T) (Q : Option Value → T → Prop) (st : List Value) : vc xs zH_63 (n + 1) b d 63 70 ml st t Q = vgi ml 1 (fun v => vc xs zH_63 n true d 63 71 ml (.int v :: st) t Q) := by
  rw [vc_q (o := (1, 0, 1, 0, [])) (by decide +kernel)]; rfl
theorem v_63_71 (xs : Option (List Int32)) (n : Nat) (b : Bool) (d : Nat) (ml : List Value) (t : T) (Q : Option Value → T → Prop) (u v : Int32) (r : List Value) : vc xs zH_63 (n + 1) b d 63 71 ml (.int v :: .int u :: r) t Q = vc xs zH_63 n true d 63 72 ml (.int (u * v) :: r) t Q := by
  rw [vc_q (o := (8, 0, 0, 0, [])) (by decide +kernel)]; rfl
theorem v_63_72 (xs : Option (List Int32)) (n : Nat) (b : Bool) (d : Nat) (ml : List Value) (t : T) (Q : Option Value → T → Prop) (st : List Value) : vc xs zH_63 (n + 1) b d 63 72 ml st t Q = vgi ml 5 (fun v => vc xs zH_63 n true d 63 74 ml (.int v :: st) t Q) := by
  rw [vc_q (o := (1, 0, 5, 1, [])) (by decide +kernel)]; rfl
theorem v_63_74 (xs : Option (List Int32)) (n : Nat) (b : Bool) (d : Nat) (ml : List Value) (t : T) (Q : Option Value → T → Prop) (u v : Int32) (r : List Value) : vc xs zH_63 (n + 1) b d 63 74 ml (.int v :: .int u :: r) t Q = vc xs zH_63 n true d 63 75 ml (.int (u + v) :: r) t Q := by
  rw [vc_q (o := (6, 0, 0, 0, [])) (by decide +kernel)]; rfl
theorem v_63_75 (xs : Option (List Int32)) (n : Nat) (b : Bool) (d : Nat) (ml : List Value) (t : T) (Q : Option Value → T → Prop) (v : Int32) (u : Nat) (r : List Value) : vc xs zH_63 (n + 1) b d 63 75 ml (.int v :: .ref u :: r) t Q = (vtag u = 100 ∧ vinb v (vlen u) ∧ vc xs zH_63 n true d 63 76 ml (.int (t.1 u v.toNatClampNeg) :: r) t Q) := by
  rw [vc_q (o := (29, 0, 0, 0, [])) (by decide +kernel)]; rfl
theorem v_63_76 (xs : Option (List Int32)) (n : Nat) (b : Bool) (d : Nat) (ml : List Value) (t : T) (Q : Option Value → T → Prop) (st : List Value) : vc xs zH_63 (n + 1) b d 63 76 ml st t Q = vga ml 0 (fun v => vc xs zH_63 n true d 63 77 ml (.ref v :: st) t Q) := by
  rw [vc_q (o := (2, 0, 0, 0, [])) (by decide +kernel)]; rfl
theorem v_63_77 (xs : Option (List Int32)) (n : Nat) (b : Bool) (d : Nat) (ml : List Value) (t : T) (Q : Option Value → T → Prop) (u : Nat) (r : List Value) : vc xs zH_63 (n + 1) b d 63 77 ml (.ref u :: r) t Q = (vtag u = 12 ∧ vc xs zH_63 n true d 63 80 ml (.ref (tref t u 33) :: r) t Q) := by
  rw [vc_q (o := (25, 0, 12, 33, [])) (by decide +kernel)]; rfl
theorem v_63_80 (xs : Option (List Int32)) (n : Nat) (b : Bool) (d : Nat) (ml : List Value) (t : T) (Q : Option Value → T → Prop) (st : List Value) : vc xs zH_63 (n + 1) b d 63 80 ml st t Q = vgi ml 5 (fun v => vc xs zH_63 n true d 63 82 ml (.int v :: st) t Q) := by
  rw [vc_q (o := (1, 0, 5, 1, [])) (by decide +kernel)]; rfl
theorem v_63_82 (xs : Option (List Int32)) (n : Nat) (b : Bool) (d : Nat) (ml : List Value) (t : T) (Q : Option Value → T → Prop) (st : List Value) : vc xs zH_63 (n + 1) b d 63 82 ml st t Q = vgi ml 1 (fun v => vc xs zH_63 n true d 63 83 ml (.int v :: st) t Q) := by
  rw [vc_q (o := (1, 0, 1, 0, [])) (by decide +kernel)]; rfl
theorem v_63_83 (xs : Option (List Int32)) (n : Nat) (b : Bool) (d : Nat) (ml : List Value) (t : T) (Q : Option Value → T → Prop) (u v : Int32) (r : List Value) : vc xs zH_63 (n + 1) b d 63 83 ml (.int v :: .int u :: r) t Q = vc xs zH_63 n true d 63 84 ml (.int (u * v) :: r) t Q := by
  rw [vc_q (o := (8, 0, 0, 0, [])) (by decide +kernel)]; rfl
theorem v_63_84 (xs : Option (List Int32)) (n : Nat) (b : Bool) (d : Nat) (ml : List Value) (t : T) (Q : Option Value → T → Prop) (st : List Value) : vc xs zH_63 (n + 1) b d 63 84 ml st t Q = vgi ml 3 (fun v => vc xs zH_63 n true d 63 85 ml (.int v :: st) t Q) := by
  rw [vc_q (o := (1, 0, 3, 0, [])) (by decide +kernel)]; rfl
theorem v_63_85 (xs : Option (List Int32)) (n : Nat) (b : Bool) (d : Nat) (ml : List Value) (t : T) (Q : Option Value → T → Prop) (st : List Value) : vc xs zH_63 (n + 1) b d 63 85 ml st t Q = vgi ml 1 (fun v => vc xs zH_63 n true d 63 86 ml (.int v :: st) t Q) := by
  rw [vc_q (o := (1, 0, 1, 0, [])) (by decide +kernel)]; rfl
theorem v_63_86 (xs : Option (List Int32)) (n : Nat) (b : Bool) (d : Nat) (ml : List Value) (t : T) (Q : Option Value → T → Prop) (u v : Int32) (r : List Value) : vc xs zH_63 (n + 1) b d 63 86 ml (.int v :: .int u :: r) t Q = (¬ v = 0 ∧ vc xs zH_63 n true d 63 87 ml (.int (u - u / v * v) :: r) t Q) := by
  rw [vc_q (o := (15, 0, 0, 0, [])) (by decide +kernel)]; rfl
theorem v_63_87 (xs : Option (List Int32)) (n : Nat) (b : Bool) (d : Nat) (ml : List Value) (t : T) (Q : Option Value → T → Prop) (u v : Int32) (r : List Value) : vc xs zH_63 (n + 1) b d 63 87 ml (.int v :: .int u :: r) t Q = vc xs zH_63 n true d 63 88 ml (.int (u + v) :: r) t Q := by
  rw [vc_q (o := (6, 0, 0, 0, [])) (by decide +kernel)]; rfl
theorem v_63_88 (xs : Option (List Int32)) (n : Nat) (b : Bool) (d : Nat) (ml : List Value) (t : T) (Q : Option Value → T → Prop) (v : Int32) (u : Nat) (r : List Value) : vc xs zH_63 (n + 1) b d 63 88 ml (.int v :: .ref u :: r) t Q = (vtag u = 100 ∧ vinb v (vlen u) ∧ vc xs zH_63 n true d 63 89 ml (.int (t.1 u v.toNatClampNeg) :: r) t Q) := by
  rw [vc_q (o := (29, 0, 0, 0, [])) (by decide +kernel)]; rfl
theorem v_63_89 (xs : Option (List Int32)) (n : Nat) (b : Bool) (d : Nat) (ml : List Value) (t : T) (Q : Option Value → T → Prop) (st : List Value) : vc xs zH_63 (n + 1) b d 63 89 ml st t Q = (st.all zc1 = true ∧ vtk 2 st [] (fun as rest => rest.length ≤ 8 ∧ twc d 34 as t (fun r t' => vc xs zH_63 n true d 63 92 ml (r.toList ++ rest) t' Q))) := by
  rw [vc_q (o := (37, 0, 34, 2, [])) (by decide +kernel)]; rfl
theorem v_63_92 (xs : Option (List Int32)) (n : Nat) (b : Bool) (d : Nat) (ml : List Value) (t : T) (Q : Option Value → T → Prop) (st : List Value) : vc xs zH_63 (n + 1) b d 63 92 ml st t Q = (st.all zc1 = true ∧ vtk 2 st [] (fun as rest => rest.length ≤ 8 ∧ twc d 35 as t (fun r t' => vc xs zH_63 n true d 63 95 ml (r.toList ++ rest) t' Q))) := by
  rw [vc_q (o := (37, 0, 35, 2, [])) (by decide +kernel)]; rfl
theorem v_63_95 (xs : Option (List Int32)) (n : Nat) (b : Bool) (d : Nat) (ml : List Value) (t : T) (Q : Option Value → T → Prop) (v : Int32) (r : List Value) : vc xs zH_63 (n + 1) b d 63 95 ml (.int v :: r) t Q = vset ml 4 (.int v) (fun l => vc xs zH_63 n true d 63 97 l r t Q) := by
  rw [vc_q (o := (3, 0, 4, 1, [])) (by decide +kernel)]; rfl
theorem v_63_97 (xs : Option (List Int32)) (n : Nat) (b : Bool) (d : Nat) (ml : List Value) (t : T) (Q : Option Value → T → Prop) (st : List Value) : vc xs zH_63 (n + 1) b d 63 97 ml st t Q = vgi ml 5 (fun v => vset ml 5 (.int (v + 1)) (fun l => vc xs zH_63 n true d 63 100 l st t Q)) := by
  rw [vc_q (o := (5, 1, 5, 0, [])) (by decide +kernel)]; rfl
theorem v_63_100 (xs : Option (List Int32)) (n : Nat) (b : Bool) (d : Nat) (ml : List Value) (t : T) (Q : Option Value → T → Prop) (st : List Value) : vc xs zH_63 (n + 1) b d 63 100 ml st t Q = vc xs zH_63 n true d 63 55 ml st t Q := by
  rw [vc_q (o := (22, 0, 55, 0, [])) (by decide +kernel)]; rfl
theorem v_63_103 (xs : Option (List Int32)) (n : Nat) (b : Bool) (d : Nat) (ml : List Value) (t : T) (Q : Option Value → T → Prop) (st : List Value) : vc xs zH_63 (n + 1) b d 63 103 ml st t Q = vgi ml 2 (fun v => vc xs zH_63 n true d 63 104 ml (.int v :: st) t Q) := by
  rw [vc_q (o := (1, 0, 2, 0, [])) (by decide +kernel)]; rfl
theorem v_63_104 (xs : Option (List Int32)) (n : Nat) (b : Bool) (d : Nat) (ml : List Value) (t : T) (Q : Option Value → T → Prop) (u : Int32) (r : List Value) : vc xs zH_63 (n + 1) b d 63 104 ml (.int u :: r) t Q = (if u = 0 then vc xs zH_63 n true d 63 107 ml r t Q else vc xs zH_63 n true d 63 118 ml r t Q) := by
  rw [vc_q (o := (21, 0, 118, 1, [])) (by decide +kernel)]; rfl
theorem v_63_107 (xs : Option (List Int32)) (n : Nat) (b : Bool) (d : Nat) (ml : List Value) (t : T) (Q : Option Value → T → Prop) (st : List Value) : vc xs zH_63 (n + 1) b d 63 107 ml st t Q = vgi ml 4 (fun v => vc xs zH_63 n true d 63 109 ml (.int v :: st) t Q) := by
  rw [vc_q (o := (1, 0, 4, 1, [])) (by decide +kernel)]; rfl
theorem v_63_109 (xs : Option (List Int32)) (n : Nat) (b : Bool) (d : Nat) (ml : List Value) (t : T) (Q : Option Value → T → Prop) (st : List Value) : vc xs zH_63 (n + 1) b d 63 109 ml st t Q = vga ml 0 (fun v => vc xs zH_63 n true d 63 110 ml (.ref v :: st) t Q) := by
  rw [vc_q (o := (2, 0, 0, 0, [])) (by decide +kernel)]; rfl
theorem v_63_110 (xs : Option (List Int32)) (n : Nat) (b : Bool) (d : Nat) (ml : List Value) (t : T) (Q : Option Value → T → Prop) (u : Nat) (r : List Value) : vc xs zH_63 (n + 1) b d 63 110 ml (.ref u :: r) t Q = (vtag u = 12 ∧ vc xs zH_63 n true d 63 113 ml (.ref (tref t u 34) :: r) t Q) := by
  rw [vc_q (o := (25, 0, 12, 34, [])) (by decide +kernel)]; rfl
theorem v_63_113 (xs : Option (List Int32)) (n : Nat) (b : Bool) (d : Nat) (ml : List Value) (t : T) (Q : Option Value → T → Prop) (st : List Value) : vc xs zH_63 (n + 1) b d 63 113 ml st t Q = vgi ml 3 (fun v => vc xs zH_63 n true d 63 114 ml (.int v :: st) t Q) := by
  rw [vc_q (o := (1, 0, 3, 0, [])) (by decide +kernel)]; rfl
theorem v_63_114 (xs : Option (List Int32)) (n : Nat) (b : Bool) (d : Nat) (ml : List Value) (t : T) (Q : Option Value → T → Prop) (v : Int32) (u : Nat) (r : List Value) : vc xs zH_63 (n + 1) b d 63 114 ml (.int v :: .ref u :: r) t Q = (vtag u = 100 ∧ vinb v (vlen u) ∧ vc xs zH_63 n true d 63 115 ml (.int (t.1 u v.toNatClampNeg) :: r) t Q) := by
  rw [vc_q (o := (29, 0, 0, 0, [])) (by decide +kernel)]; rfl
theorem v_63_115 (xs : Option (List Int32)) (n : Nat) (b : Bool) (d : Nat) (ml : List Value) (t : T) (Q : Option Value → T → Prop) (u v : Int32) (r : List Value) : vc xs zH_63 (n + 1) b d 63 115 ml (.int v :: .int u :: r) t Q = (if u = v then vc xs zH_63 n true d 63 122 ml r t Q else vc xs zH_63 n true d 63 118 ml r t Q) := by
  rw [vc_q (o := (20, 0, 122, 0, [])) (by decide +kernel)]; rfl
theorem v_63_118 (xs : Option (List Int32)) (n : Nat) (b : Bool) (d : Nat) (ml : List Value) (t : T) (Q : Option Value → T → Prop) (st : List Value) : vc xs zH_63 (n + 1) b d 63 118 ml st t Q = vc xs zH_63 n true d 63 119 ml (.int 1 :: st) t Q := by
  rw [vc_q (o := (0, 1, 0, 0, [])) (by decide +kernel)]; rfl
theorem v_63_119 (xs : Option (List Int32)) (n : Nat) (b : Bool) (d : Nat) (ml : List Value) (t : T) (Q : Option Value → T → Prop) (st : List Value) : vc xs zH_63 (n + 1) b d 63 119 ml st t Q = vc xs zH_63 n true d 63 123 ml st t Q := by
  rw [vc_q (o := (22, 0, 123, 0, [])) (by decide +kernel)]; rfl
theorem v_63_122 (xs : Option (List Int32)) (n : Nat) (b : Bool) (d : Nat) (ml : List Value) (t : T) (Q : Option Value → T → Prop) (st : List Value) : vc xs zH_63 (n + 1) b d 63 122 ml st t Q = vc xs zH_63 n true d 63 123 ml (.int 0 :: st) t Q := by
  rw [vc_q (o := (0, 0, 0, 0, [])) (by decide +kernel)]; rfl
theorem v_63_123 (xs : Option (List Int32)) (n : Nat) (b : Bool) (d : Nat) (ml : List Value) (t : T) (Q : Option Value → T → Prop) (v : Int32) (r : List Value) : vc xs zH_63 (n + 1) b d 63 123 ml (.int v :: r) t Q = vset ml 2 (.int v) (fun l => vc xs zH_63 n true d 63 124 l r t Q) := by
  rw [vc_q (o := (3, 0, 2, 0, [])) (by decide +kernel)]; rfl
theorem v_63_124 (xs : Option (List Int32)) (n : Nat) (b : Bool) (d : Nat) (ml : List Value) (t : T) (Q : Option Value → T → Prop) (st : List Value) : vc xs zH_63 (n + 1) b d 63 124 ml st t Q = vga ml 0 (fun v => vc xs zH_63 n true d 63 125 ml (.ref v :: st) t Q) := by
  rw [vc_q (o := (2, 0, 0, 0, [])) (by decide +kernel)]; rfl
theorem v_63_125 (xs : Option (List Int32)) (n : Nat) (b : Bool) (d : Nat) (ml : List Value) (t : T) (Q : Option Value → T → Prop) (u : Nat) (r : List Value) : vc xs zH_63 (n + 1) b d 63 125 ml (.ref u :: r) t Q = (vtag u = 12 ∧ vc xs zH_63 n true d 63 128 ml (.ref (tref t u 34) :: r) t Q) := by
  rw [vc_q (o := (25, 0, 12, 34, [])) (by decide +kernel)]; rfl
theorem v_63_128 (xs : Option (List Int32)) (n : Nat) (b : Bool) (d : Nat) (ml : List Value) (t : T) (Q : Option Value → T → Prop) (st : List Value) : vc xs zH_63 (n + 1) b d 63 128 ml st t Q = vgi ml 3 (fun v => vc xs zH_63 n true d 63 129 ml (.int v :: st) t Q) := by
  rw [vc_q (o := (1, 0, 3, 0, [])) (by decide +kernel)]; rfl
theorem v_63_129 (xs : Option (List Int32)) (n : Nat) (b : Bool) (d : Nat) (ml : List Value) (t : T) (Q : Option Value → T → Prop) (st : List Value) : vc xs zH_63 (n + 1) b d 63 129 ml st t Q = vgi ml 4 (fun v => vc xs zH_63 n true d 63 131 ml (.int v :: st) t Q) := by
  rw [vc_q (o := (1, 0, 4, 1, [])) (by decide +kernel)]; rfl
theorem v_63_131 (xs : Option (List Int32)) (n : Nat) (b : Bool) (d : Nat) (ml : List Value) (t : T) (Q : Option Value → T → Prop) (w v : Int32) (u : Nat) (r : List Value) : vc xs zH_63 (n + 1) b d 63 131 ml (.int w :: .int v :: .ref u :: r) t Q = (vtag u = 100 ∧ vinb v (vlen u) ∧ vc xs zH_63 n true d 63 132 ml r (tsi t u v.toNatClampNeg w) Q) := by
  rw [vc_q (o := (32, 0, 0, 0, [])) (by decide +kernel)]; rfl
theorem v_63_132 (xs : Option (List Int32)) (n : Nat) (b : Bool) (d : Nat) (ml : List Value) (t : T) (Q : Option Value → T → Prop) (st : List Value) : vc xs zH_63 (n + 1) b d 63 132 ml st t Q = vgi ml 3 (fun v => vset ml 3 (.int (v + 1)) (fun l => vc xs zH_63 n true d 63 135 l st t Q)) := by
  rw [vc_q (o := (5, 1, 3, 0, [])) (by decide +kernel)]; rfl
theorem v_63_135 (xs : Option (List Int32)) (n : Nat) (b : Bool) (d : Nat) (ml : List Value) (t : T) (Q : Option Value → T → Prop) (st : List Value) : vc xs zH_63 (n + 1) b d 63 135 ml st t Q = vc xs zH_63 n true d 63 37 ml st t Q := by
  rw [vc_q (o := (22, 0, 37, 0, [])) (by decide +kernel)]; rfl
theorem v_63_138 (xs : Option (List Int32)) (n : Nat) (b : Bool) (d : Nat) (ml : List Value) (t : T) (Q : Option Value → T → Prop) (st : List Value) : vc xs zH_63 (n + 1) b d 63 138 ml st t Q = vc xs zH_63 n true d 63 29 ml st t Q := by
  rw [vc_q (o := (22, 0, 29, 0, [])) (by decide +kernel)]; rfl
theorem v_63_141 (xs : Option (List Int32)) (n : Nat) (b : Bool) (d : Nat) (ml : List Value) (t : T) (Q : Option Value → T → Prop)  : vc xs zH_63 (n + 1) b d 63 141 ml [] t Q = Q none t := by
  rw [vc_q (o := (43, 0, 0, 0, [])) (by decide +kernel)]; rfl
