/-! The classes of the store: what is known of each. -/
set_option maxRecDepth 100000 in
theorem dm_in0 : ∀ w ∈ u_ws RX0 TX0 8, w ∈ dm_GW := by decide +kernel
theorem dm_is0 : Cond.instantiable RX0 8 ∈ dm_GW ∧ Cond.initialized RX0 ∈ dm_GW := by decide +kernel
set_option maxRecDepth 100000 in
theorem dm_in1 : ∀ w ∈ u_ws RX1 TX1 6, w ∈ dm_GW := by decide +kernel
theorem dm_is1 : Cond.instantiable RX1 6 ∈ dm_GW ∧ Cond.initialized RX1 ∈ dm_GW := by decide +kernel
set_option maxRecDepth 100000 in
theorem dm_in2 : ∀ w ∈ u_ws RX2 TX2 10, w ∈ dm_GW := by decide +kernel
theorem dm_is2 : Cond.instantiable RX2 10 ∈ dm_GW ∧ Cond.initialized RX2 ∈ dm_GW := by decide +kernel
set_option maxRecDepth 100000 in
theorem dm_in3 : ∀ w ∈ u_ws RX3 TX3 1, w ∈ dm_GW := by decide +kernel
theorem dm_is3 : Cond.instantiable RX3 1 ∈ dm_GW ∧ Cond.initialized RX3 ∈ dm_GW := by decide +kernel
set_option maxRecDepth 100000 in
theorem dm_in4 : ∀ w ∈ u_ws RX4 TX4 4, w ∈ dm_GW := by decide +kernel
theorem dm_is4 : Cond.instantiable RX4 4 ∈ dm_GW ∧ Cond.initialized RX4 ∈ dm_GW := by decide +kernel
set_option maxRecDepth 100000 in
theorem dm_in5 : ∀ w ∈ u_ws RX5 TX5 8, w ∈ dm_GW := by decide +kernel
theorem dm_is5 : Cond.instantiable RX5 8 ∈ dm_GW ∧ Cond.initialized RX5 ∈ dm_GW := by decide +kernel
set_option maxRecDepth 100000 in
theorem dm_in6 : ∀ w ∈ u_ws RX6 TX6 3, w ∈ dm_GW := by decide +kernel
theorem dm_is6 : Cond.instantiable RX6 3 ∈ dm_GW ∧ Cond.initialized RX6 ∈ dm_GW := by decide +kernel
set_option maxRecDepth 100000 in
theorem dm_in7 : ∀ w ∈ u_ws RX7 TX7 10, w ∈ dm_GW := by decide +kernel
theorem dm_is7 : Cond.instantiable RX7 10 ∈ dm_GW ∧ Cond.initialized RX7 ∈ dm_GW := by decide +kernel
set_option maxRecDepth 100000 in
theorem dm_in8 : ∀ w ∈ u_ws RX8 TX8 3, w ∈ dm_GW := by decide +kernel
theorem dm_is8 : Cond.instantiable RX8 3 ∈ dm_GW ∧ Cond.initialized RX8 ∈ dm_GW := by decide +kernel
set_option maxRecDepth 100000 in
theorem dm_in9 : ∀ w ∈ u_ws RX9 TX9 10, w ∈ dm_GW := by decide +kernel
theorem dm_is9 : Cond.instantiable RX9 10 ∈ dm_GW ∧ Cond.initialized RX9 ∈ dm_GW := by decide +kernel
set_option maxRecDepth 100000 in
theorem dm_in11 : ∀ w ∈ u_ws RX11 TX11 17, w ∈ dm_GW := by decide +kernel
theorem dm_is11 : Cond.instantiable RX11 17 ∈ dm_GW ∧ Cond.initialized RX11 ∈ dm_GW := by decide +kernel
set_option maxRecDepth 100000 in
theorem dm_in12 : ∀ w ∈ u_ws RX12 TX12 40, w ∈ dm_GW := by decide +kernel
theorem dm_is12 : Cond.instantiable RX12 40 ∈ dm_GW ∧ Cond.initialized RX12 ∈ dm_GW := by decide +kernel
def dm_CI (ci : Nat) (q : vw_C) : Prop := dm_nf ci = q.2.2 ∧ (∀ k, k < q.2.2 → parseFieldDescriptor (q.2.1 k).2.2.1 = some (dm_ty ci k)) ∧ (∀ a, a < q.2.2 → ∀ b, b < q.2.2 → a ≠ b → (q.2.1 a).2.1 ≠ (q.2.1 b).2.1) ∧ (∀ w ∈ u_ws q.1 q.2.1 q.2.2, w ∈ dm_GW) ∧ Cond.instantiable q.1 q.2.2 ∈ dm_GW ∧ Cond.initialized q.1 ∈ dm_GW
theorem dm_class {ci : Nat} {q : vw_C} (h : dm_cl[ci]? = some q) : dm_CI ci q := by
  match ci, h with
  | 0, h => cases h; exact ⟨rfl, tyX0_ok, nmX0, dm_in0, dm_is0.1, dm_is0.2⟩
  | 1, h => cases h; exact ⟨rfl, tyX1_ok, nmX1, dm_in1, dm_is1.1, dm_is1.2⟩
  | 2, h => cases h; exact ⟨rfl, tyX2_ok, nmX2, dm_in2, dm_is2.1, dm_is2.2⟩
  | 3, h => cases h; exact ⟨rfl, tyX3_ok, nmX3, dm_in3, dm_is3.1, dm_is3.2⟩
  | 4, h => cases h; exact ⟨rfl, tyX4_ok, nmX4, dm_in4, dm_is4.1, dm_is4.2⟩
  | 5, h => cases h; exact ⟨rfl, tyX5_ok, nmX5, dm_in5, dm_is5.1, dm_is5.2⟩
  | 6, h => cases h; exact ⟨rfl, tyX6_ok, nmX6, dm_in6, dm_is6.1, dm_is6.2⟩
  | 7, h => cases h; exact ⟨rfl, tyX7_ok, nmX7, dm_in7, dm_is7.1, dm_is7.2⟩
  | 8, h => cases h; exact ⟨rfl, tyX8_ok, nmX8, dm_in8, dm_is8.1, dm_is8.2⟩
  | 9, h => cases h; exact ⟨rfl, tyX9_ok, nmX9, dm_in9, dm_is9.1, dm_is9.2⟩
  | 10, h => cases h; exact ⟨rfl, tyX11_ok, nmX11, dm_in11, dm_is11.1, dm_is11.2⟩
  | 11, h => cases h; exact ⟨rfl, tyX12_ok, nmX12, dm_in12, dm_is12.1, dm_is12.2⟩
  | n + 12, h => simp [dm_cl] at h
