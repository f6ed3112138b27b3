/-! The reference: a minute, the rest. -/
def clV (H : Nat → Int32) (j : Nat) (v : Int32) : Int32 := if H (26 + 5 * j) = 1 then v / 4 else v / 2
def cuV (v : Int32) : Int32 := v - if v ≤ 0 then 0 else 1
def p2X (Y H : Nat → Int32) (b k : Nat) : Nat → Int32 := fun i => if b + 13 ≤ i ∧ i < b + 13 + k then clV H (i - (b + 13)) (Y i) else if b + 19 ≤ i ∧ i < b + 19 + k then cuV (Y i) else Y i
theorem p2X_0 (Y H : Nat → Int32) (b : Nat) : p2X Y H b 0 = Y := by
  funext i
  have h1 : ¬ (b + 13 ≤ i ∧ i < b + 13 + 0) := by omega
  have h2 : ¬ (b + 19 ≤ i ∧ i < b + 19 + 0) := by omega
  simp only [p2X, if_neg h1, if_neg h2]
theorem p2X_13 (Y H : Nat → Int32) {b k : Nat} (hk : k < 6) : p2X Y H b k (b + 13 + k) = Y (b + 13 + k) := by
  have h1 : ¬ (b + 13 ≤ b + 13 + k ∧ b + 13 + k < b + 13 + k) := by omega
  have h2 : ¬ (b + 19 ≤ b + 13 + k ∧ b + 13 + k < b + 19 + k) := by omega
  simp only [p2X, if_neg h1, if_neg h2]
theorem p2X_19 (Y H : Nat → Int32) {b k : Nat} (hk : k < 6) : p2X Y H b k (b + 19 + k) = Y (b + 19 + k) := by
  have h1 : ¬ (b + 13 ≤ b + 19 + k ∧ b + 19 + k < b + 13 + k) := by omega
  have h2 : ¬ (b + 19 ≤ b + 19 + k ∧ b + 19 + k < b + 19 + k) := by omega
  simp only [p2X, if_neg h1, if_neg h2]
theorem p2X_step (Y H : Nat → Int32) {b k : Nat} (hk : k < 6) : upd (upd (p2X Y H b k) (b + 13 + k) (clV H k (Y (b + 13 + k)))) (b + 19 + k) (cuV (Y (b + 19 + k))) = p2X Y H b (k + 1) := by
  funext i
  by_cases h : i = b + 19 + k
  · subst h
    have h1 : ¬ (b + 13 ≤ b + 19 + k ∧ b + 19 + k < b + 13 + (k + 1)) := by omega
    have h2 : b + 19 ≤ b + 19 + k ∧ b + 19 + k < b + 19 + (k + 1) := by omega
    simp only [upd, if_true, p2X, if_neg h1, if_pos h2]
  · by_cases h3 : i = b + 13 + k
    · subst h3
      have h1 : b + 13 ≤ b + 13 + k ∧ b + 13 + k < b + 13 + (k + 1) := by omega
      have h2 : b + 13 + k - (b + 13) = k := by omega
      simp only [upd, if_neg h, if_true, p2X, if_pos h1, h2]
    · have h1 : (b + 13 ≤ i ∧ i < b + 13 + (k + 1)) ↔ (b + 13 ≤ i ∧ i < b + 13 + k) := by omega
      have h2 : (b + 19 ≤ i ∧ i < b + 19 + (k + 1)) ↔ (b + 19 ≤ i ∧ i < b + 19 + k) := by omega
      simp only [upd, if_neg h, if_neg h3, p2X, h1, h2]
theorem m_passes_2 {S : dm_Sc} {d : Nat} {σ : dm_St} {Q : Option Value → dm_St → Prop} {R : Prop} (L : Lay σ) {n b : Nat} {x : Int32} {Y : Nat → Int32} (hn : n ≤ 6) (hN : dm_I σ 270 1 = nI n) (hb : b + 56 ≤ 1288)
    (hend : ∀ ls, dm_nl ls = true → dm_get ls 0 = some (.ref 264) → dm_get ls 1 = some (.int (nI b)) → dm_get ls 2 = some (.int x) → (xw S (d + 5) (some .int) qX12_passes kX12_passes_170 ls [] (rowS σ (p2X Y (dm_I σ 270) b n)) Q ↔ R)) :
    ∀ (m k : Nat) (ls : dm_Lv), k + m = n → dm_nl ls = true → dm_get ls 0 = some (.ref 264) → dm_get ls 1 = some (.int (nI b)) → dm_get ls 2 = some (.int x) → dm_get ls 4 = some (.int (nI k)) →
    (xw S (d + 5) (some .int) qX12_passes kX12_passes_90 ls [] (rowS σ (p2X Y (dm_I σ 270) b k)) Q ↔ R) := by
  intro m
  induction m with
  | zero =>
    intro k ls hk hnl h0 h1 h2 h4
    obtain rfl : k = n := by omega
    have L1 := L.row (p2X Y (dm_I σ 270) b k)
    have hN1 : dm_I (rowS σ (p2X Y (dm_I σ 270) b k)) 270 1 = nI k := by rw [rowS_ne σ _ (by decide)]; exact hN
    have hc : nI k ≤ nI k := Int32.le_refl _
    unfold kX12_passes_90
    simp only [kX12_passes_161, kX12_passes_87, kX12_passes_57, kX12_passes_56, kX12_passes_12, kX12_passes_0, gX12_passes_18, gX12_passes_31, gX12_passes_41, gX12_passes_53, gX12_passes_84, gX12_passes_96, gX12_passes_154, gX12_passes_158, gX12_passes_167, xi_iadd, xi_isub, xi_imul, xi_irem, xi_iconst, xi_bipush, xi_iload, xi_iload_1, xi_iload_2, xi_iload_3, xi_aload_0, xi_istore, xi_istore_2, xi_istore_3, xi_iinc, xi_dup2, xi_getf, xi_iaload, xi_iastore, xw_v1, xw_v3, xw_goto, xw_icmp, xw_if, xw_iret, dm_ald, dm_ast, dm_at, dm_gf, xk_b13, xk_b19, xk_b7, xk_i0, xk_i1, xk_i5, xv_11_10, xv_11_25, reduceIte, Nat.reduceBEq, Bool.false_eq_true, Bool.true_eq_false, if_true, if_false, Bool.not_true, Bool.not_false, Bool.and_true, Bool.and_false, Bool.true_and, Bool.false_and, xwm_some, xwm_none, xwm_ite, dm_ld, dm_kI, dm_kL, dm_kA, xg_cI, xg_cL, xg_cR, xg_cX, xg_cN, dm_cmp, decide_eq_true_eq, xfI, xfB0, xfB1, xfBi, ite_self, xf00, xf10, xf11, Bool.or_true, Bool.true_or, Bool.or_false, Bool.false_or, Int.reduceToNat, true_and, and_true, and_self, xwt_def, List.map_cons, List.map_nil, List.sum_cons, List.sum_nil, Nat.reduceAdd, Nat.reduceLeDiff, Option.toList, List.cons_append, List.nil_append, List.append_nil, xg_pe, xg_pn, xg_nlI, xg_nlR, dm_rcv, decide_true, xj_top, not_false_eq_true, not_true_eq_false, ite_not, xd10, ls_264 L1, lr_264_10 L1, ls_270 L1, lr_264_25 L1, ls_280 L1, m_tenants L1, hnl, h0, h1, h2, h4, hN1, hc]
    exact hend ls hnl h0 h1 h2
  | succ m ih =>
    intro k ls hk hnl h0 h1 h2 h4
    have hk6 : k < 6 := by omega
    have L1 := L.row (p2X Y (dm_I σ 270) b k)
    have L2 := L.row (upd (p2X Y (dm_I σ 270) b k) (b + 13 + k) (clV (dm_I σ 270) k (Y (b + 13 + k))))
    have hN1 : dm_I (rowS σ (p2X Y (dm_I σ 270) b k)) 270 1 = nI n := by rw [rowS_ne σ _ (by decide)]; exact hN
    have hc : ¬ nI n ≤ nI k := by rw [nI_leI (by omega) (by omega)]; omega
    have e2 : nI k + 1 = nI (k + 1) := nI_1 k
    have e13 : nI b + 13 + nI k = nI (b + 13 + k) := by rw [xn_13, nI_add, nI_add]
    have i13 : dm_in (nI (b + 13 + k)) 1288 = true := xinN (by omega) (by decide)
    have c13 : (nI (b + 13 + k)).toNatClampNeg = b + 13 + k := nI_clamp (by omega)
    have e19 : nI b + 19 + nI k = nI (b + 19 + k) := by rw [xn_19, nI_add, nI_add]
    have i19 : dm_in (nI (b + 19 + k)) 1288 = true := xinN (by omega) (by decide)
    have c19 : (nI (b + 19 + k)).toNatClampNeg = b + 19 + k := nI_clamp (by omega)
    have r13 : dm_I (rowS σ (p2X Y (dm_I σ 270) b k)) 280 (b + 13 + k) = Y (b + 13 + k) := by rw [rowS_280]; exact p2X_13 _ _ hk6
    have hC : ∀ Q' : Option Value → dm_St → Prop, xc S (d + 5) 206 [.ref 264, .int (nI k), .int (Y (b + 13 + k))] (rowS σ (p2X Y (dm_I σ 270) b k)) Q' ↔ Q' (some (.int (clV (dm_I σ 270) k (Y (b + 13 + k))))) (rowS σ (p2X Y (dm_I σ 270) b k)) := fun Q' => by
      have hC := m_calmed (S := S) (d := d + 3) (Q := Q') (σ := rowS σ (p2X Y (dm_I σ 270) b k)) (j := k) L1 hk6 (Y (b + 13 + k))
      rw [rowS_ne σ _ (show ¬ 270 = 280 by decide)] at hC
      exact hC
    have s1 : dm_setI (rowS σ (p2X Y (dm_I σ 270) b k)) (dm_up (dm_I (rowS σ (p2X Y (dm_I σ 270) b k))) 280 (b + 13 + k) (clV (dm_I σ 270) k (Y (b + 13 + k)))) = rowS σ (upd (p2X Y (dm_I σ 270) b k) (b + 13 + k) (clV (dm_I σ 270) k (Y (b + 13 + k)))) := rowS_up _ _ _ _
    have r19 : dm_I (rowS σ (upd (p2X Y (dm_I σ 270) b k) (b + 13 + k) (clV (dm_I σ 270) k (Y (b + 13 + k))))) 280 (b + 19 + k) = Y (b + 19 + k) := by
      rw [rowS_280]
      have hne : ¬ b + 19 + k = b + 13 + k := by omega
      simp only [upd, if_neg hne]
      exact p2X_19 _ _ hk6
    have s2 : dm_setI (rowS σ (upd (p2X Y (dm_I σ 270) b k) (b + 13 + k) (clV (dm_I σ 270) k (Y (b + 13 + k))))) (dm_up (dm_I (rowS σ (upd (p2X Y (dm_I σ 270) b k) (b + 13 + k) (clV (dm_I σ 270) k (Y (b + 13 + k)))))) 280 (b + 19 + k) (cuV (Y (b + 19 + k)))) = rowS σ (p2X Y (dm_I σ 270) b (k + 1)) := by rw [rowS_up, p2X_step _ _ hk6]
    have hcu : Y (b + 19 + k) - (if Y (b + 19 + k) ≤ 0 then 0 else 1) = cuV (Y (b + 19 + k)) := rfl
    unfold kX12_passes_90
    simp only [kX12_passes_161, kX12_passes_87, kX12_passes_57, kX12_passes_56, kX12_passes_12, kX12_passes_0, gX12_passes_18, gX12_passes_31, gX12_passes_41, gX12_passes_53, gX12_passes_84, gX12_passes_96, gX12_passes_154, gX12_passes_158, gX12_passes_167, xi_iadd, xi_isub, xi_imul, xi_irem, xi_iconst, xi_bipush, xi_iload, xi_iload_1, xi_iload_2, xi_iload_3, xi_aload_0, xi_istore, xi_istore_2, xi_istore_3, xi_iinc, xi_dup2, xi_getf, xi_iaload, xi_iastore, xw_v1, xw_v3, xw_goto, xw_icmp, xw_if, xw_iret, dm_ald, dm_ast, dm_at, dm_gf, xk_b13, xk_b19, xk_b7, xk_i0, xk_i1, xk_i5, xv_11_10, xv_11_25, reduceIte, Nat.reduceBEq, Bool.false_eq_true, Bool.true_eq_false, if_true, if_false, Bool.not_true, Bool.not_false, Bool.and_true, Bool.and_false, Bool.true_and, Bool.false_and, xwm_some, xwm_none, xwm_ite, dm_ld, dm_kI, dm_kL, dm_kA, xg_cI, xg_cL, xg_cR, xg_cX, xg_cN, dm_cmp, decide_eq_true_eq, xfI, xfB0, xfB1, xfBi, ite_self, xf00, xf10, xf11, Bool.or_true, Bool.true_or, Bool.or_false, Bool.false_or, Int.reduceToNat, true_and, and_true, and_self, xwt_def, List.map_cons, List.map_nil, List.sum_cons, List.sum_nil, Nat.reduceAdd, Nat.reduceLeDiff, Option.toList, List.cons_append, List.nil_append, List.append_nil, xg_pe, xg_pn, xg_nlI, xg_nlR, dm_rcv, decide_true, xj_top, not_false_eq_true, not_true_eq_false, ite_not, xd10, ls_264 L1, lr_264_10 L1, ls_270 L1, lr_264_25 L1, ls_280 L1, m_tenants L1, hnl, h0, h1, h2, h4, hN1, ls_264 L2, lr_264_25 L2, ls_280 L2, hc, e13, i13, c13, e19, i19, c19, r13, hC, s1, r19]
    simp only [kX12_passes_162, kX12_passes_161, kX12_passes_87, kX12_passes_57, kX12_passes_56, kX12_passes_12, kX12_passes_0, gX12_passes_18, gX12_passes_31, gX12_passes_41, gX12_passes_53, gX12_passes_84, gX12_passes_96, gX12_passes_154, gX12_passes_158, gX12_passes_167, xi_iadd, xi_isub, xi_imul, xi_irem, xi_iconst, xi_bipush, xi_iload, xi_iload_1, xi_iload_2, xi_iload_3, xi_aload_0, xi_istore, xi_istore_2, xi_istore_3, xi_iinc, xi_dup2, xi_getf, xi_iaload, xi_iastore, xw_v1, xw_v3, xw_goto, xw_icmp, xw_if, xw_iret, dm_ald, dm_ast, dm_at, dm_gf, xk_b13, xk_b19, xk_b7, xk_i0, xk_i1, xk_i5, xv_11_10, xv_11_25, reduceIte, Nat.reduceBEq, Bool.false_eq_true, Bool.true_eq_false, if_true, if_false, Bool.not_true, Bool.not_false, Bool.and_true, Bool.and_false, Bool.true_and, Bool.false_and, xwm_some, xwm_none, xwm_ite, dm_ld, dm_kI, dm_kL, dm_kA, xg_cI, xg_cL, xg_cR, xg_cX, xg_cN, dm_cmp, decide_eq_true_eq, xfI, xfB0, xfB1, xfBi, ite_self, xf00, xf10, xf11, Bool.or_true, Bool.true_or, Bool.or_false, Bool.false_or, Int.reduceToNat, true_and, and_true, and_self, xwt_def, List.map_cons, List.map_nil, List.sum_cons, List.sum_nil, Nat.reduceAdd, Nat.reduceLeDiff, Option.toList, List.cons_append, List.nil_append, List.append_nil, xg_pe, xg_pn, xg_nlI, xg_nlR, dm_rcv, decide_true, xj_top, not_false_eq_true, not_true_eq_false, ite_not, xd10, ls_264 L1, lr_264_10 L1, ls_270 L1, lr_264_25 L1, ls_280 L1, m_tenants L1, hnl, h0, h1, h2, h4, hN1, ls_264 L2, lr_264_25 L2, ls_280 L2, i19, c19, hcu, s2, e2]
    exact ih (k + 1) _ (by omega) (xg_nlI hnl) (by rw [xg_pn hnl rfl]; exact h0) (by rw [xg_pn hnl rfl]; exact h1) (by rw [xg_pn hnl rfl]; exact h2) xg_pe
