/-! The reference: what changes a state's block. -/
theorem xI_setI (σ : dm_St) (f : Nat → Nat → Int32) : dm_I (dm_setI σ f) = f := rfl
theorem xR_setI (σ : dm_St) (f : Nat → Nat → Int32) : dm_R (dm_setI σ f) = dm_R σ := rfl
theorem xS_setI (σ : dm_St) (f : Nat → Nat → Int32) : dm_sh (dm_setI σ f) = dm_sh σ := rfl
theorem xI_2 (σ : dm_St) (f g : Nat → Nat → Int32) : dm_setI (dm_setI σ f) g = dm_setI σ g := rfl
theorem xL_setI (σ : dm_St) (f : Nat → Nat → Int32) : dm_L (dm_setI σ f) = dm_L σ := rfl
/-- the block's first k places copied -/
def cpS (σ : dm_St) (a b k : Nat) : dm_St := dm_setI σ (dm_row (dm_I σ) 280 (va_cpy (dm_I σ 280) (dm_I σ 280) a b k))
theorem cpS_0 (σ : dm_St) (a b : Nat) : cpS σ a b 0 = σ := by
  unfold cpS
  have e : dm_row (dm_I σ) 280 (va_cpy (dm_I σ 280) (dm_I σ 280) a b 0) = dm_I σ := by
    funext p i
    by_cases h : p = 280
    · subst h
      have : ¬ (b ≤ i ∧ i < b + 0) := by omega
      simp only [dm_row, if_true, va_cpy, if_neg this]
    · simp only [dm_row, if_neg h]
  rw [e]
theorem cpS_step (σ : dm_St) {a b n k : Nat} (hd : a + n ≤ b ∨ b + n ≤ a) (hk : k < n) : dm_setI (cpS σ a b k) (dm_up (dm_I (cpS σ a b k)) 280 (b + k) (dm_I (cpS σ a b k) 280 (a + k))) = cpS σ a b (k + 1) := by
  unfold cpS
  have e : dm_up (dm_I (dm_setI σ (dm_row (dm_I σ) 280 (va_cpy (dm_I σ 280) (dm_I σ 280) a b k)))) 280 (b + k) (dm_I (dm_setI σ (dm_row (dm_I σ) 280 (va_cpy (dm_I σ 280) (dm_I σ 280) a b k))) 280 (a + k)) = dm_row (dm_I σ) 280 (va_cpy (dm_I σ 280) (dm_I σ 280) a b (k + 1)) := by
    funext p i
    rw [xI_setI]
    by_cases h : p = 280
    · subst h
      have h1 : ¬ (b ≤ a + k ∧ a + k < b + k) := by omega
      by_cases hi : i = b + k
      · subst hi
        have h2 : b ≤ b + k ∧ b + k < b + (k + 1) := by omega
        have h3 : a + (b + k - b) = a + k := by omega
        simp only [dm_up, dm_row, if_true, and_self, va_cpy, if_neg h1, if_pos h2, h3]
      · have h4 : (b ≤ i ∧ i < b + (k + 1)) ↔ (b ≤ i ∧ i < b + k) := by omega
        simp only [dm_up, dm_row, if_true, true_and, hi, if_false, va_cpy, h4]
    · simp only [dm_up, dm_row, h, false_and, if_false]
  rw [e]
theorem m_copies_loop {S : dm_Sc} {d : Nat} {σ : dm_St} {Q : Option Value → dm_St → Prop} (L : Lay σ) {n a b : Nat} (hd : a + n ≤ b ∨ b + n ≤ a) (ha : a + n ≤ 1288) (hb : b + n ≤ 1288) : ∀ (m k : Nat) (ls : dm_Lv), k + m = n → dm_nl ls = true → dm_get ls 0 = some (.ref 264) → dm_get ls 1 = some (.int (nI a)) → dm_get ls 2 = some (.int (nI b)) → dm_get ls 3 = some (.int (nI n)) → dm_get ls 4 = some (.int (nI k)) →
    (xw S d none qX12_copies kX12_copies_3 ls [] (cpS σ a b k) Q ↔ Q none (cpS σ a b n)) := by
  intro m
  induction m with
  | zero =>
    intro k ls hk hnl h0 h1 h2 h3 h4
    have L1 : Lay (cpS σ a b k) := L.I _
    have hc : nI n ≤ nI k := nI_le (by omega) (by omega)
    obtain rfl : k = n := by omega
    unfold kX12_copies_3
    simp only [kX12_copies_33, kX12_copies_0, gX12_copies_6, gX12_copies_30, xi_iadd, xi_iconst, xi_iload, xi_iload_1, xi_iload_2, xi_iload_3, xi_aload_0, xi_istore, xi_iinc, xi_getf, xi_iaload, xi_iastore, xw_goto, xw_icmp, xw_ret, dm_ald, dm_ast, dm_at, dm_gf, xk_i0, xk_i1, xv_11_25, reduceIte, Nat.reduceBEq, Bool.false_eq_true, Bool.true_eq_false, if_true, if_false, Bool.not_true, Bool.not_false, Bool.and_true, Bool.and_false, Bool.true_and, Bool.false_and, xwm_some, xwm_none, xwm_ite, dm_ld, dm_kI, dm_kL, dm_kA, xg_cI, xg_cL, xg_cR, xg_cX, xg_cN, dm_cmp, decide_eq_true_eq, xfI, xfB0, xfB1, xfBi, ite_self, xf00, xf10, xf11, Bool.or_true, Bool.true_or, Bool.or_false, Bool.false_or, Int.reduceToNat, true_and, and_true, and_self, xwt_def, List.map_cons, List.map_nil, List.sum_cons, List.sum_nil, Nat.reduceAdd, Nat.reduceLeDiff, Option.toList, List.cons_append, List.nil_append, List.append_nil, xg_pe, xg_pn, xg_nlI, xg_nlR, xI_setI, ls_264 L1, lr_264_25 L1, ls_280 L1, hnl, h0, h1, h2, h3, h4, hc]
  | succ m ih =>
    intro k ls hk hnl h0 h1 h2 h3 h4
    have L1 : Lay (cpS σ a b k) := L.I _
    have hc : ¬ nI n ≤ nI k := by rw [nI_leI (by omega) (by omega)]; omega
    have e2 : nI k + 1 = nI (k + 1) := nI_1 k
    have ea : nI a + nI k = nI (a + k) := nI_add a k
    have eb : nI b + nI k = nI (b + k) := nI_add b k
    have ia : dm_in (nI (a + k)) 1288 = true := xinN (by omega) (by decide)
    have ib : dm_in (nI (b + k)) 1288 = true := xinN (by omega) (by decide)
    have ca : (nI (a + k)).toNatClampNeg = a + k := nI_clamp (by omega)
    have cb : (nI (b + k)).toNatClampNeg = b + k := nI_clamp (by omega)
    unfold kX12_copies_3
    simp only [kX12_copies_33, kX12_copies_0, gX12_copies_6, gX12_copies_30, xi_iadd, xi_iconst, xi_iload, xi_iload_1, xi_iload_2, xi_iload_3, xi_aload_0, xi_istore, xi_iinc, xi_getf, xi_iaload, xi_iastore, xw_goto, xw_icmp, xw_ret, dm_ald, dm_ast, dm_at, dm_gf, xk_i0, xk_i1, xv_11_25, reduceIte, Nat.reduceBEq, Bool.false_eq_true, Bool.true_eq_false, if_true, if_false, Bool.not_true, Bool.not_false, Bool.and_true, Bool.and_false, Bool.true_and, Bool.false_and, xwm_some, xwm_none, xwm_ite, dm_ld, dm_kI, dm_kL, dm_kA, xg_cI, xg_cL, xg_cR, xg_cX, xg_cN, dm_cmp, decide_eq_true_eq, xfI, xfB0, xfB1, xfBi, ite_self, xf00, xf10, xf11, Bool.or_true, Bool.true_or, Bool.or_false, Bool.false_or, Int.reduceToNat, true_and, and_true, and_self, xwt_def, List.map_cons, List.map_nil, List.sum_cons, List.sum_nil, Nat.reduceAdd, Nat.reduceLeDiff, Option.toList, List.cons_append, List.nil_append, List.append_nil, xg_pe, xg_pn, xg_nlI, xg_nlR, xI_setI, ls_264 L1, lr_264_25 L1, ls_280 L1, hnl, h0, h1, h2, h3, h4, hc, e2, ea, eb, ia, ib, ca, cb, cpS_step σ hd (show k < n by omega)]
    exact ih (k + 1) _ (by omega) (by simp [xg_nlI, hnl]) (by simp [xg_pe, xg_pn, xg_nlI, hnl, h0]) (by simp [xg_pe, xg_pn, xg_nlI, hnl, h1]) (by simp [xg_pe, xg_pn, xg_nlI, hnl, h2]) (by simp [xg_pe, xg_pn, xg_nlI, hnl, h3]) (by simp [xg_pe, xg_pn, xg_nlI, hnl, h4])
theorem m_copies {S : dm_Sc} {d : Nat} {σ : dm_St} {Q : Option Value → dm_St → Prop} (L : Lay σ) {n a b : Nat} (hd : a + n ≤ b ∨ b + n ≤ a) (ha : a + n ≤ 1288) (hb : b + n ≤ 1288) : xc S (d + 1) 189 [.ref 264, .int (nI a), .int (nI b), .int (nI n)] σ Q ↔ Q none (cpS σ a b n) := by
  rw [in_X12_copies]
  unfold kX12_copies_0
  simp only [kX12_copies_33, gX12_copies_6, gX12_copies_30, xi_iadd, xi_iconst, xi_iload, xi_iload_1, xi_iload_2, xi_iload_3, xi_aload_0, xi_istore, xi_iinc, xi_getf, xi_iaload, xi_iastore, xw_goto, xw_icmp, xw_ret, dm_ald, dm_ast, dm_at, dm_gf, xk_i0, xk_i1, xv_11_25, reduceIte, Nat.reduceBEq, Bool.false_eq_true, Bool.true_eq_false, if_true, if_false, Bool.not_true, Bool.not_false, Bool.and_true, Bool.and_false, Bool.true_and, Bool.false_and, List.filter_cons, List.filter_nil, xwm_some, xwm_none, xwm_ite, dm_ld, dm_kI, dm_kL, dm_kA, xg_eq, xg_ne, dm_put1, dm_put2, xg_cI, xg_cL, xg_cR, xg_cX, xg_cN, dm_cmp, decide_eq_true_eq, xfI, xfB0, xfB1, xfBi, ite_self, xf00, xf10, xf11, Bool.or_true, Bool.true_or, Bool.or_false, Bool.false_or, Int.reduceToNat, true_and, and_true, and_self, xwt_def, List.map_cons, List.map_nil, List.sum_cons, List.sum_nil, Nat.reduceAdd, Nat.reduceLeDiff, Option.toList, List.cons_append, List.nil_append, List.append_nil]
  have h := m_copies_loop (S := S) (d := d) (Q := Q) L hd ha hb n 0 [(4, .int 0), (0, .ref 264), (1, .int (nI a)), (2, .int (nI b)), (3, .int (nI n))] (by omega) rfl rfl rfl rfl rfl rfl
  rw [cpS_0] at h
  exact h
theorem m_climbs {S : dm_Sc} {d : Nat} {σ : dm_St} {Q : Option Value → dm_St → Prop} (L : Lay σ) {b j r : Nat} (hj : j < 6) (hb : b + 56 ≤ 1288) (hr : dm_I σ 280 (b + 1 + j) = nI r) (hr6 : r < 6) : xc S (d + 3) 211 [.ref 264, .int (nI b), .int (nI j)] σ Q ↔ Q none (dm_setI σ (dm_up (dm_I σ) 280 (b + 13 + j) (dm_I σ 280 (b + 13 + j) + if dm_I σ 270 (26 + 5 * j) = 2 then dm_I σ 270 (8 + 3 * r) / 2 else dm_I σ 270 (8 + 3 * r)))) := by
  have e0 : (26 : Int32) + 5 * nI j + 0 = nI (26 + 5 * j) := by rw [xn_26, xn_5, xn_0, pk_mul, nI_add, nI_add]; rfl
  have i0 : dm_in (nI (26 + 5 * j)) 240 = true := xinN (by omega) (by decide)
  have c0 : (nI (26 + 5 * j)).toNatClampNeg = 26 + 5 * j := nI_clamp (by omega)
  have se1 : nI b + 1 + nI j = nI (b + 1 + j) := by rw [xn_1, nI_add, nI_add]
  have si1 : dm_in (nI (b + 1 + j)) 1288 = true := xinN (by omega) (by decide)
  have sc1 : (nI (b + 1 + j)).toNatClampNeg = b + 1 + j := nI_clamp (by omega)
  have se13 : nI b + 13 + nI j = nI (b + 13 + j) := by rw [xn_13, nI_add, nI_add]
  have si13 : dm_in (nI (b + 13 + j)) 1288 = true := xinN (by omega) (by decide)
  have sc13 : (nI (b + 13 + j)).toNatClampNeg = b + 13 + j := nI_clamp (by omega)
  have re : (8 : Int32) + 3 * nI r + 0 = nI (8 + 3 * r) := by rw [xn_8, xn_3, xn_0, pk_mul, nI_add, nI_add]; rfl
  have ri : dm_in (nI (8 + 3 * r)) 240 = true := xinN (by omega) (by decide)
  have rc : (nI (8 + 3 * r)).toNatClampNeg = 8 + 3 * r := nI_clamp (by omega)
  rw [in_X12_climbs]
  simp only [kX12_climbs_44, kX12_climbs_0, gX12_climbs_35, gX12_climbs_41, xi_iadd, xi_idiv, xi_iconst, xi_bipush, xi_iload_1, xi_iload_2, xi_iload_3, xi_aload_0, xi_istore_3, xi_dup2, xi_getf, xi_iaload, xi_iastore, xw_v3, xw_goto, xw_icmp, xw_ret, dm_ald, dm_ast, dm_at, dm_gf, xk_b13, xk_i0, xk_i1, xk_i2, xv_11_25, kX12_roomOf_0, xi_imul, xw_iret, xk_b8, xk_i3, xv_11_10, kX12_tenantOf_0, xk_b26, xk_i5, in_X12_roomOf, in_X12_tenantOf, reduceIte, Nat.reduceBEq, Bool.false_eq_true, Bool.true_eq_false, if_true, if_false, Bool.not_true, Bool.not_false, Bool.and_true, Bool.and_false, Bool.true_and, Bool.false_and, List.filter_cons, List.filter_nil, xwm_some, xwm_none, xwm_ite, dm_ld, dm_kI, dm_kL, dm_kA, xg_eq, xg_ne, dm_put1, dm_put2, xg_cI, xg_cL, xg_cR, xg_cX, xg_cN, dm_cmp, decide_eq_true_eq, xfI, xfB0, xfB1, xfBi, ite_self, xf00, xf10, xf11, Bool.or_true, Bool.true_or, Bool.or_false, Bool.false_or, Int.reduceToNat, true_and, and_true, and_self, xwt_def, List.map_cons, List.map_nil, List.sum_cons, List.sum_nil, Nat.reduceAdd, Nat.reduceLeDiff, Option.toList, List.cons_append, List.nil_append, List.append_nil, ls_264 L, lr_264_10 L, ls_270 L, lr_264_25 L, ls_280 L, dm_rcv, decide_true, xj_top, xd2, xd4, xd10, not_false_eq_true, not_true_eq_false, ite_not, Int32.add_zero, xI_setI, xR_setI, xS_setI, xL_setI, xI_2, hr, re, ri, rc, e0, i0, c0, se1, si1, sc1, se13, si13, sc13]
  simp only [kX12_climbs_45, kX12_climbs_44, kX12_climbs_0, gX12_climbs_35, gX12_climbs_41, xi_iadd, xi_idiv, xi_iconst, xi_bipush, xi_iload_1, xi_iload_2, xi_iload_3, xi_aload_0, xi_istore_3, xi_dup2, xi_getf, xi_iaload, xi_iastore, xw_v3, xw_goto, xw_icmp, xw_ret, dm_ald, dm_ast, dm_at, dm_gf, xk_b13, xk_i0, xk_i1, xk_i2, xv_11_25, kX12_roomOf_0, xi_imul, xw_iret, xk_b8, xk_i3, xv_11_10, kX12_tenantOf_0, xk_b26, xk_i5, in_X12_roomOf, in_X12_tenantOf, reduceIte, Nat.reduceBEq, Bool.false_eq_true, Bool.true_eq_false, if_true, if_false, Bool.not_true, Bool.not_false, Bool.and_true, Bool.and_false, Bool.true_and, Bool.false_and, List.filter_cons, List.filter_nil, xwm_some, xwm_none, xwm_ite, dm_ld, dm_kI, dm_kL, dm_kA, xg_eq, xg_ne, dm_put1, dm_put2, xg_cI, xg_cL, xg_cR, xg_cX, xg_cN, dm_cmp, decide_eq_true_eq, xfI, xfB0, xfB1, xfBi, ite_self, xf00, xf10, xf11, Bool.or_true, Bool.true_or, Bool.or_false, Bool.false_or, Int.reduceToNat, true_and, and_true, and_self, xwt_def, List.map_cons, List.map_nil, List.sum_cons, List.sum_nil, Nat.reduceAdd, Nat.reduceLeDiff, Option.toList, List.cons_append, List.nil_append, List.append_nil, ls_264 L, lr_264_10 L, ls_270 L, lr_264_25 L, ls_280 L, dm_rcv, decide_true, xj_top, xd2, xd4, xd10, not_false_eq_true, not_true_eq_false, ite_not, Int32.add_zero, xI_setI, xR_setI, xS_setI, xL_setI, xI_2, hr, re, ri, rc, e0, i0, c0, se1, si1, sc1, se13, si13, sc13]
theorem m_frights {S : dm_Sc} {d : Nat} {σ : dm_St} {Q : Option Value → dm_St → Prop} (L : Lay σ) {b j : Nat} (hj : j < 6) (hb : b + 56 ≤ 1288) (v : Int32) (hh : ¬ 1 + dm_I σ 280 (b + 25 + j) = 0) : xc S (d + 3) 213 [.ref 264, .int (nI b), .int (nI j), .int v] σ Q ↔ Q none (dm_setI σ (dm_up (dm_up (dm_I σ) 280 (b + 13 + j) (dm_I σ 280 (b + 13 + j) + if 0 ≤ v - dm_I σ 270 (26 + 5 * j + 2) then (v - dm_I σ 270 (26 + 5 * j + 2)) / (1 + dm_I σ 280 (b + 25 + j)) else 0)) 280 (b + 25 + j) (dm_I σ 280 (b + 25 + j) + 1))) := by
  have se13 : nI b + 13 + nI j = nI (b + 13 + j) := by rw [xn_13, nI_add, nI_add]
  have si13 : dm_in (nI (b + 13 + j)) 1288 = true := xinN (by omega) (by decide)
  have sc13 : (nI (b + 13 + j)).toNatClampNeg = b + 13 + j := nI_clamp (by omega)
  have se25 : nI b + 25 + nI j = nI (b + 25 + j) := by rw [xn_25, nI_add, nI_add]
  have si25 : dm_in (nI (b + 25 + j)) 1288 = true := xinN (by omega) (by decide)
  have sc25 : (nI (b + 25 + j)).toNatClampNeg = b + 25 + j := nI_clamp (by omega)
  rw [in_X12_frights]
  simp only [kX12_frights_0, xi_iadd, xi_iconst, xi_bipush, xi_iload_1, xi_iload_2, xi_iload_3, xi_aload_0, xi_dup2, xi_getf, xi_iaload, xi_iastore, xw_v4, xw_ret, dm_ald, dm_ast, dm_at, dm_gf, xk_b13, xk_b25, xk_i1, xv_11_25, reduceIte, Nat.reduceBEq, Bool.false_eq_true, Bool.true_eq_false, if_true, if_false, Bool.not_true, Bool.not_false, Bool.and_true, Bool.and_false, Bool.true_and, Bool.false_and, List.filter_cons, List.filter_nil, xwm_some, xwm_none, xwm_ite, dm_ld, dm_kI, dm_kL, dm_kA, xg_eq, xg_ne, dm_put1, dm_put2, xg_cI, xg_cL, xg_cR, xg_cX, xg_cN, dm_cmp, decide_eq_true_eq, xfI, xfB0, xfB1, xfBi, ite_self, xf00, xf10, xf11, Bool.or_true, Bool.true_or, Bool.or_false, Bool.false_or, Int.reduceToNat, true_and, and_true, and_self, xwt_def, List.map_cons, List.map_nil, List.sum_cons, List.sum_nil, Nat.reduceAdd, Nat.reduceLeDiff, Option.toList, List.cons_append, List.nil_append, List.append_nil, ls_264 L, lr_264_10 L, ls_270 L, lr_264_25 L, ls_280 L, dm_rcv, decide_true, xj_top, xd2, xd4, xd10, not_false_eq_true, not_true_eq_false, ite_not, Int32.add_zero, xI_setI, xR_setI, xS_setI, xL_setI, xI_2, m_frightened L hj v _ hh, xup_col (show ¬ b + 25 + j = b + 13 + j by omega), se13, si13, sc13, se25, si25, sc25]
