theorem xf0 : ((0 : Fin 4) : Nat) = 0 := rfl
theorem xf1 : ((1 : Fin 4) : Nat) = 1 := rfl
theorem xf2 : ((2 : Fin 4) : Nat) = 2 := rfl
theorem xf3 : ((3 : Fin 4) : Nat) = 3 := rfl
theorem ty_isWithin {S : dm_Sc} {d : Nat} {σ : dm_St} {Q : Option Value → dm_St → Prop} (v a b : Int32) : xc S (d + 1) 143 [.int v, .int a, .int b] σ Q ↔ Q (some (.int (if a ≤ v ∧ v ≤ b then 1 else 0))) σ := by
  rw [xc_body (row := rX11_isWithin) rfl rfl]
  show xw S d (some .boolean) qX11_isWithin kX11_isWithin_0 [(0, .int v), (1, .int a), (2, .int b)] [] σ Q ↔ _
  simp only [kX11_isWithin_0, kX11_isWithin_14, kX11_isWithin_15, xw_sx, dm_plain, xwm, dm_sx, dm_ld, dm_b, xf0, xf1, xf2, xf3, xg_eq, xg_ne, dm_kI, xw_icmp, dm_cmp, decide_eq_true_eq, xw_goto, gX11_isWithin_2, gX11_isWithin_7, gX11_isWithin_11, jX11_isWithin_14, jX11_isWithin_15, xw_iret, dm_fits]
  trace_state
  sorry
