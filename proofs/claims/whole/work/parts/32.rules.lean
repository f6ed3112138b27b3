/-! Rows for the simplifier: calls by how many they take; locals. -/
section XR
variable {S : dm_Sc} {d : Nat} {ret : Option FieldType} {code k : List dm_Op} {ls : dm_Lv} {st : List Value} {σ : dm_St} {Q : Option Value → dm_St → Prop}
theorem xw_v1 {pc len ix : Nat} {mi ci : Int} {tl : List Int} {v1 : Value} : xw S d ret code ((pc, .invokevirtual ix, len, 0 :: mi :: 1 :: ci :: tl) :: k) ls (v1 :: st) σ Q ↔ (dm_wait st = true ∧ dm_rcv σ ci.toNat [v1] = true) ∧ xc S d mi.toNat [v1] σ (fun r σ' => xw S d ret code k ls (r.toList ++ st) σ' Q) := by
  rw [xw_inv0 (kd := 0) (mi := mi) (na := 1) (ci := ci) (tl := tl) (fun _ => rfl)]
  simp
theorem xw_v2 {pc len ix : Nat} {mi ci : Int} {tl : List Int} {v1 v2 : Value} : xw S d ret code ((pc, .invokevirtual ix, len, 0 :: mi :: 2 :: ci :: tl) :: k) ls (v2 :: v1 :: st) σ Q ↔ (dm_wait st = true ∧ dm_rcv σ ci.toNat [v1, v2] = true) ∧ xc S d mi.toNat [v1, v2] σ (fun r σ' => xw S d ret code k ls (r.toList ++ st) σ' Q) := by
  rw [xw_inv0 (kd := 0) (mi := mi) (na := 2) (ci := ci) (tl := tl) (fun _ => rfl)]
  simp
theorem xw_v3 {pc len ix : Nat} {mi ci : Int} {tl : List Int} {v1 v2 v3 : Value} : xw S d ret code ((pc, .invokevirtual ix, len, 0 :: mi :: 3 :: ci :: tl) :: k) ls (v3 :: v2 :: v1 :: st) σ Q ↔ (dm_wait st = true ∧ dm_rcv σ ci.toNat [v1, v2, v3] = true) ∧ xc S d mi.toNat [v1, v2, v3] σ (fun r σ' => xw S d ret code k ls (r.toList ++ st) σ' Q) := by
  rw [xw_inv0 (kd := 0) (mi := mi) (na := 3) (ci := ci) (tl := tl) (fun _ => rfl)]
  simp
theorem xw_v4 {pc len ix : Nat} {mi ci : Int} {tl : List Int} {v1 v2 v3 v4 : Value} : xw S d ret code ((pc, .invokevirtual ix, len, 0 :: mi :: 4 :: ci :: tl) :: k) ls (v4 :: v3 :: v2 :: v1 :: st) σ Q ↔ (dm_wait st = true ∧ dm_rcv σ ci.toNat [v1, v2, v3, v4] = true) ∧ xc S d mi.toNat [v1, v2, v3, v4] σ (fun r σ' => xw S d ret code k ls (r.toList ++ st) σ' Q) := by
  rw [xw_inv0 (kd := 0) (mi := mi) (na := 4) (ci := ci) (tl := tl) (fun _ => rfl)]
  simp
theorem xw_v5 {pc len ix : Nat} {mi ci : Int} {tl : List Int} {v1 v2 v3 v4 v5 : Value} : xw S d ret code ((pc, .invokevirtual ix, len, 0 :: mi :: 5 :: ci :: tl) :: k) ls (v5 :: v4 :: v3 :: v2 :: v1 :: st) σ Q ↔ (dm_wait st = true ∧ dm_rcv σ ci.toNat [v1, v2, v3, v4, v5] = true) ∧ xc S d mi.toNat [v1, v2, v3, v4, v5] σ (fun r σ' => xw S d ret code k ls (r.toList ++ st) σ' Q) := by
  rw [xw_inv0 (kd := 0) (mi := mi) (na := 5) (ci := ci) (tl := tl) (fun _ => rfl)]
  simp
theorem xw_s0 {pc len ix : Nat} {mi ci : Int} {tl : List Int} : xw S d ret code ((pc, .invokestatic ix, len, 1 :: mi :: 0 :: ci :: tl) :: k) ls (st) σ Q ↔ (dm_wait st = true) ∧ xc S d mi.toNat [] σ (fun r σ' => xw S d ret code k ls (r.toList ++ st) σ' Q) := by
  rw [xw_inv0 (kd := 1) (mi := mi) (na := 0) (ci := ci) (tl := tl) (fun _ => rfl)]
  simp
theorem xw_s1 {pc len ix : Nat} {mi ci : Int} {tl : List Int} {v1 : Value} : xw S d ret code ((pc, .invokestatic ix, len, 1 :: mi :: 1 :: ci :: tl) :: k) ls (v1 :: st) σ Q ↔ (dm_wait st = true) ∧ xc S d mi.toNat [v1] σ (fun r σ' => xw S d ret code k ls (r.toList ++ st) σ' Q) := by
  rw [xw_inv0 (kd := 1) (mi := mi) (na := 1) (ci := ci) (tl := tl) (fun _ => rfl)]
  simp
theorem xw_s2 {pc len ix : Nat} {mi ci : Int} {tl : List Int} {v1 v2 : Value} : xw S d ret code ((pc, .invokestatic ix, len, 1 :: mi :: 2 :: ci :: tl) :: k) ls (v2 :: v1 :: st) σ Q ↔ (dm_wait st = true) ∧ xc S d mi.toNat [v1, v2] σ (fun r σ' => xw S d ret code k ls (r.toList ++ st) σ' Q) := by
  rw [xw_inv0 (kd := 1) (mi := mi) (na := 2) (ci := ci) (tl := tl) (fun _ => rfl)]
  simp
theorem xw_s3 {pc len ix : Nat} {mi ci : Int} {tl : List Int} {v1 v2 v3 : Value} : xw S d ret code ((pc, .invokestatic ix, len, 1 :: mi :: 3 :: ci :: tl) :: k) ls (v3 :: v2 :: v1 :: st) σ Q ↔ (dm_wait st = true) ∧ xc S d mi.toNat [v1, v2, v3] σ (fun r σ' => xw S d ret code k ls (r.toList ++ st) σ' Q) := by
  rw [xw_inv0 (kd := 1) (mi := mi) (na := 3) (ci := ci) (tl := tl) (fun _ => rfl)]
  simp
theorem xw_s4 {pc len ix : Nat} {mi ci : Int} {tl : List Int} {v1 v2 v3 v4 : Value} : xw S d ret code ((pc, .invokestatic ix, len, 1 :: mi :: 4 :: ci :: tl) :: k) ls (v4 :: v3 :: v2 :: v1 :: st) σ Q ↔ (dm_wait st = true) ∧ xc S d mi.toNat [v1, v2, v3, v4] σ (fun r σ' => xw S d ret code k ls (r.toList ++ st) σ' Q) := by
  rw [xw_inv0 (kd := 1) (mi := mi) (na := 4) (ci := ci) (tl := tl) (fun _ => rfl)]
  simp
theorem xw_s5 {pc len ix : Nat} {mi ci : Int} {tl : List Int} {v1 v2 v3 v4 v5 : Value} : xw S d ret code ((pc, .invokestatic ix, len, 1 :: mi :: 5 :: ci :: tl) :: k) ls (v5 :: v4 :: v3 :: v2 :: v1 :: st) σ Q ↔ (dm_wait st = true) ∧ xc S d mi.toNat [v1, v2, v3, v4, v5] σ (fun r σ' => xw S d ret code k ls (r.toList ++ st) σ' Q) := by
  rw [xw_inv0 (kd := 1) (mi := mi) (na := 5) (ci := ci) (tl := tl) (fun _ => rfl)]
  simp
theorem xw_p1 {pc len ix : Nat} {mi ci : Int} {tl : List Int} {v1 : Value} : xw S d ret code ((pc, .invokespecial ix, len, 2 :: mi :: 1 :: ci :: tl) :: k) ls (v1 :: st) σ Q ↔ (dm_wait st = true ∧ dm_rcv σ ci.toNat [v1] = true) ∧ xc S d mi.toNat [v1] σ (fun r σ' => xw S d ret code k ls (r.toList ++ st) σ' Q) := by
  rw [xw_inv0 (kd := 2) (mi := mi) (na := 1) (ci := ci) (tl := tl) (fun _ => rfl)]
  simp
theorem xw_p2 {pc len ix : Nat} {mi ci : Int} {tl : List Int} {v1 v2 : Value} : xw S d ret code ((pc, .invokespecial ix, len, 2 :: mi :: 2 :: ci :: tl) :: k) ls (v2 :: v1 :: st) σ Q ↔ (dm_wait st = true ∧ dm_rcv σ ci.toNat [v1, v2] = true) ∧ xc S d mi.toNat [v1, v2] σ (fun r σ' => xw S d ret code k ls (r.toList ++ st) σ' Q) := by
  rw [xw_inv0 (kd := 2) (mi := mi) (na := 2) (ci := ci) (tl := tl) (fun _ => rfl)]
  simp
theorem xw_p3 {pc len ix : Nat} {mi ci : Int} {tl : List Int} {v1 v2 v3 : Value} : xw S d ret code ((pc, .invokespecial ix, len, 2 :: mi :: 3 :: ci :: tl) :: k) ls (v3 :: v2 :: v1 :: st) σ Q ↔ (dm_wait st = true ∧ dm_rcv σ ci.toNat [v1, v2, v3] = true) ∧ xc S d mi.toNat [v1, v2, v3] σ (fun r σ' => xw S d ret code k ls (r.toList ++ st) σ' Q) := by
  rw [xw_inv0 (kd := 2) (mi := mi) (na := 3) (ci := ci) (tl := tl) (fun _ => rfl)]
  simp
theorem xw_p4 {pc len ix : Nat} {mi ci : Int} {tl : List Int} {v1 v2 v3 v4 : Value} : xw S d ret code ((pc, .invokespecial ix, len, 2 :: mi :: 4 :: ci :: tl) :: k) ls (v4 :: v3 :: v2 :: v1 :: st) σ Q ↔ (dm_wait st = true ∧ dm_rcv σ ci.toNat [v1, v2, v3, v4] = true) ∧ xc S d mi.toNat [v1, v2, v3, v4] σ (fun r σ' => xw S d ret code k ls (r.toList ++ st) σ' Q) := by
  rw [xw_inv0 (kd := 2) (mi := mi) (na := 4) (ci := ci) (tl := tl) (fun _ => rfl)]
  simp
theorem xw_p5 {pc len ix : Nat} {mi ci : Int} {tl : List Int} {v1 v2 v3 v4 v5 : Value} : xw S d ret code ((pc, .invokespecial ix, len, 2 :: mi :: 5 :: ci :: tl) :: k) ls (v5 :: v4 :: v3 :: v2 :: v1 :: st) σ Q ↔ (dm_wait st = true ∧ dm_rcv σ ci.toNat [v1, v2, v3, v4, v5] = true) ∧ xc S d mi.toNat [v1, v2, v3, v4, v5] σ (fun r σ' => xw S d ret code k ls (r.toList ++ st) σ' Q) := by
  rw [xw_inv0 (kd := 2) (mi := mi) (na := 5) (ci := ci) (tl := tl) (fun _ => rfl)]
  simp
theorem xg_eq {i : Nat} {v : Value} : dm_get ((i, v) :: ls) i = some v := by simp [dm_get]
theorem xg_ne {i j : Nat} {v : Value} (h : (j == i) = false) : dm_get ((j, v) :: ls) i = dm_get ls i := by simp [dm_get, h]
theorem xg_cI (x : Int32) : (Value.int x).category = 1 := rfl
theorem xg_cL (x : Int64) : (Value.long x).category = 2 := rfl
theorem xg_cR (x : Nat) : (Value.ref x).category = 1 := rfl
theorem xg_cX (x : Nat) : (Value.retAddr x).category = 1 := rfl
theorem xg_cN : Value.null.category = 1 := rfl
end XR
