/-! The reference: a minute. -/
theorem lvF_congr {f f' g g' : Nat → Int32} : ∀ (m k : Nat) (i : Int32), (∀ e, k ≤ e → e < k + m → f e = f' e ∧ g e = g' e) → lvF f g m k i = lvF f' g' m k i
  | 0, _, _, _ => rfl
  | m + 1, k, i, h => by
    have h0 := h k (Nat.le_refl k) (by omega)
    simp only [lvF]
    rw [h0.1, h0.2]
    exact lvF_congr m (k + 1) _ (fun e h1 h2 => h e (by omega) (by omega))
def rsV (H : Nat → Int32) (j : Nat) : Int32 := H (26 + 5 * j + 1) + if H (26 + 5 * j) = 3 then 20 else 0
/-- the pulse by the rows: house, states, brew; n tenants, block b, tenant j -/
def pRv (H X : Nat → Int32) (br : Int32) (n b j : Nat) : Int32 := plV (rsV H j) (X (b + 13 + j)) (H (8 + 3 * (X (b + 1 + j)).toNatClampNeg + 1)) (X (b + 19 + j)) br (lvF (fun e => H (56 + 6 * j + e)) (fun e => X (b + 1 + e)) n 0 0)
def vRv (H X : Nat → Int32) (br ev : Int32) (n b j : Nat) : Int32 := if X (b + 1 + j) < 0 then 0 else pRv H X br n b j * ev
def p1X (X v : Nat → Int32) (b k : Nat) : Nat → Int32 := fun i => if b + 7 ≤ i ∧ i < b + 7 + k then X i + v (i - (b + 7)) else X i
def smF (v : Nat → Int32) : Nat → Int32
  | 0 => 0
  | k + 1 => smF v k + v k
def rowS (σ : dm_St) (X : Nat → Int32) : dm_St := dm_setI σ (dm_row (dm_I σ) 280 X)
theorem rowS_280 (σ : dm_St) (X : Nat → Int32) : dm_I (rowS σ X) 280 = X := by simp [rowS, dm_I, dm_setI, dm_row]
theorem rowS_ne (σ : dm_St) (X : Nat → Int32) {q : Nat} (h : ¬ q = 280) : dm_I (rowS σ X) q = dm_I σ q := by
  show dm_row (dm_I σ) 280 X q = _
  exact dm_row_ne h
theorem rowS_up (σ : dm_St) (X : Nat → Int32) (i : Nat) (v : Int32) : dm_setI (rowS σ X) (dm_up (dm_I (rowS σ X)) 280 i v) = rowS σ (upd X i v) := by
  have e : dm_up (dm_I (rowS σ X)) 280 i v = dm_row (dm_I σ) 280 (upd X i v) := by
    funext p j
    by_cases h : p = 280
    · subst h
      by_cases h2 : j = i
      · simp [dm_up, dm_row, upd, h2]
      · simp [dm_up, dm_row, upd, h2, rowS, dm_I, dm_setI]
    · simp [dm_up, dm_row, h, rowS, dm_I, dm_setI]
  rw [e]; rfl
theorem rowS_id (σ : dm_St) : rowS σ (dm_I σ 280) = σ := by
  have e : dm_row (dm_I σ) 280 (dm_I σ 280) = dm_I σ := by
    funext p
    by_cases h : p = 280
    · subst h; simp [dm_row]
    · simp [dm_row, h]
  unfold rowS; rw [e]
theorem Lay.row {σ : dm_St} (L : Lay σ) (X : Nat → Int32) : Lay (rowS σ X) := L.I _
theorem p1X_0 (X v : Nat → Int32) (b : Nat) : p1X X v b 0 = X := by
  funext i
  have : ¬ (b + 7 ≤ i ∧ i < b + 7 + 0) := by omega
  simp only [p1X, if_neg this]
theorem p1X_out (X v : Nat → Int32) {b k i : Nat} (h : i < b + 7 ∨ b + 7 + k ≤ i) : p1X X v b k i = X i := by
  have : ¬ (b + 7 ≤ i ∧ i < b + 7 + k) := by omega
  simp only [p1X, if_neg this]
theorem p1X_step (X v : Nat → Int32) (b k : Nat) : upd (p1X X v b k) (b + 7 + k) (X (b + 7 + k) + v k) = p1X X v b (k + 1) := by
  funext i
  by_cases h : i = b + 7 + k
  · subst h
    have h1 : b + 7 ≤ b + 7 + k ∧ b + 7 + k < b + 7 + (k + 1) := by omega
    have h2 : b + 7 + k - (b + 7) = k := by omega
    simp only [upd, if_true, p1X, if_pos h1, h2]
  · have h1 : (b + 7 ≤ i ∧ i < b + 7 + (k + 1)) ↔ (b + 7 ≤ i ∧ i < b + 7 + k) := by omega
    simp only [upd, if_neg h, p1X, h1]
theorem m_passes_1 {S : dm_Sc} {d : Nat} {σ : dm_St} {Q : Option Value → dm_St → Prop} {R : Prop} (L : Lay σ) {n b : Nat} {ev : Int32} (hn : n ≤ 6) (hN : dm_I σ 270 1 = nI n) (hb : b + 56 ≤ 1288) (hev : ¬ ev = 0) (hroom : ∀ j, j < n → dm_I σ 280 (b + 1 + j) < 0 ∨ ∃ r, r < 6 ∧ dm_I σ 280 (b + 1 + j) = nI r)
    (hnow : dm_I σ 280 b - dm_I σ 280 b / ev * ev = 0)
    (hend : ∀ ls, dm_nl ls = true → dm_get ls 0 = some (.ref 264) → dm_get ls 1 = some (.int (nI b)) → dm_get ls 2 = some (.int (smF (vRv (dm_I σ 270) (dm_I σ 280) (dm_I σ 264 28) ev n b) n)) → (xw S (d + 5) (some .int) qX12_passes kX12_passes_87 ls [] (rowS σ (p1X (dm_I σ 280) (vRv (dm_I σ 270) (dm_I σ 280) (dm_I σ 264 28) ev n b) b n)) Q ↔ R)) :
    ∀ (m k : Nat) (ls : dm_Lv), k + m = n → dm_nl ls = true → dm_get ls 0 = some (.ref 264) → dm_get ls 1 = some (.int (nI b)) → dm_get ls 2 = some (.int (smF (vRv (dm_I σ 270) (dm_I σ 280) (dm_I σ 264 28) ev n b) k)) → dm_get ls 3 = some (.int ev) → dm_get ls 4 = some (.int (nI k)) →
    (xw S (d + 5) (some .int) qX12_passes kX12_passes_12 ls [] (rowS σ (p1X (dm_I σ 280) (vRv (dm_I σ 270) (dm_I σ 280) (dm_I σ 264 28) ev n b) b k)) Q ↔ R) := by
  generalize hv : vRv (dm_I σ 270) (dm_I σ 280) (dm_I σ 264 28) ev n b = v at hend ⊢
  intro m
  induction m with
  | zero =>
    intro k ls hk hnl h0 h1 h2 h3 h4
    obtain rfl : k = n := by omega
    have L1 := L.row (p1X (dm_I σ 280) v b k)
    have hN1 : dm_I (rowS σ (p1X (dm_I σ 280) v b k)) 270 1 = nI k := by rw [rowS_ne σ _ (by decide)]; exact hN
    have hc : nI k ≤ nI k := Int32.le_refl _
    unfold kX12_passes_12
    simp only [kX12_passes_170, kX12_passes_162, kX12_passes_161, kX12_passes_90, kX12_passes_56, kX12_passes_0, gX12_passes_18, gX12_passes_31, gX12_passes_41, gX12_passes_53, gX12_passes_84, gX12_passes_96, gX12_passes_154, gX12_passes_158, gX12_passes_167, xi_iadd, xi_isub, xi_imul, xi_irem, xi_iconst, xi_bipush, xi_iload, xi_iload_1, xi_iload_2, xi_iload_3, xi_aload_0, xi_istore, xi_istore_2, xi_istore_3, xi_iinc, xi_dup2, xi_getf, xi_iaload, xi_iastore, xw_v1, xw_v3, xw_goto, xw_icmp, xw_if, xw_iret, dm_ald, dm_ast, dm_at, dm_gf, xk_b13, xk_b19, xk_b7, xk_i0, xk_i1, xk_i5, xv_11_10, xv_11_25, reduceIte, Nat.reduceBEq, Bool.false_eq_true, Bool.true_eq_false, if_true, if_false, Bool.not_true, Bool.not_false, Bool.and_true, Bool.and_false, Bool.true_and, Bool.false_and, xwm_some, xwm_none, xwm_ite, dm_ld, dm_kI, dm_kL, dm_kA, xg_cI, xg_cL, xg_cR, xg_cX, xg_cN, dm_cmp, decide_eq_true_eq, xfI, xfB0, xfB1, xfBi, ite_self, xf00, xf10, xf11, Bool.or_true, Bool.true_or, Bool.or_false, Bool.false_or, Int.reduceToNat, true_and, and_true, and_self, xwt_def, List.map_cons, List.map_nil, List.sum_cons, List.sum_nil, Nat.reduceAdd, Nat.reduceLeDiff, Option.toList, List.cons_append, List.nil_append, List.append_nil, xg_pe, xg_pn, xg_nlI, xg_nlR, rowS_280, dm_rcv, decide_true, xj_top, not_false_eq_true, not_true_eq_false, ite_not, xd10, ls_264 L1, lr_264_10 L1, ls_270 L1, lr_264_25 L1, ls_280 L1, m_tenants L1, hnl, h0, h1, h2, h3, h4, hN1, hc]
    exact hend ls hnl h0 h1 h2
  | succ m ih =>
    intro k ls hk hnl h0 h1 h2 h3 h4
    have L1 := L.row (p1X (dm_I σ 280) v b k)
    have hN1 : dm_I (rowS σ (p1X (dm_I σ 280) v b k)) 270 1 = nI n := by rw [rowS_ne σ _ (by decide)]; exact hN
    have hc : ¬ nI n ≤ nI k := by rw [nI_leI (by omega) (by omega)]; omega
    have e2 : nI k + 1 = nI (k + 1) := nI_1 k
    have eb : nI b + 0 = nI b := Int32.add_zero _
    have ib : dm_in (nI b) 1288 = true := xinN (by omega) (by decide)
    have cb : (nI b).toNatClampNeg = b := nI_clamp (by omega)
    have e7 : nI b + 7 + nI k = nI (b + 7 + k) := by rw [xn_7, nI_add, nI_add]
    have i7 : dm_in (nI (b + 7 + k)) 1288 = true := xinN (by omega) (by decide)
    have c7 : (nI (b + 7 + k)).toNatClampNeg = b + 7 + k := nI_clamp (by omega)
    have xb : p1X (dm_I σ 280) v b k b = dm_I σ 280 b := p1X_out _ _ (Or.inl (by omega))
    have x7 : p1X (dm_I σ 280) v b k (b + 7 + k) = dm_I σ 280 (b + 7 + k) := p1X_out _ _ (Or.inr (by omega))
    have hI : ∀ Q' : Option Value → dm_St → Prop, xc S (d + 5) 201 [.ref 264, .int (nI b), .int (nI k)] (rowS σ (p1X (dm_I σ 280) v b k)) Q' ↔ Q' (some (.int (if dm_I σ 280 (b + 1 + k) < 0 then 0 else 1))) (rowS σ (p1X (dm_I σ 280) v b k)) := fun Q' => by
      have hI := m_isIn (S := S) (d := d + 2) (Q := Q') (σ := rowS σ (p1X (dm_I σ 280) v b k)) (j := k) L1 hn hN1 (show k < n by omega) hb
      rw [rowS_280, p1X_out _ _ (show b + 1 + k < b + 7 ∨ b + 7 + k ≤ b + 1 + k from Or.inl (by omega))] at hI
      exact hI
    have hz : ((if dm_I σ 280 (b + 1 + k) < 0 then (0 : Int32) else 1) = 0) = (dm_I σ 280 (b + 1 + k) < 0) := by by_cases h : dm_I σ 280 (b + 1 + k) < 0 <;> simp [h]
    have hvk : v k = if dm_I σ 280 (b + 1 + k) < 0 then 0 else pRv (dm_I σ 270) (dm_I σ 280) (dm_I σ 264 28) n b k * ev := by rw [← hv]; rfl
    have st : dm_setI (rowS σ (p1X (dm_I σ 280) v b k)) (dm_up (dm_I (rowS σ (p1X (dm_I σ 280) v b k))) 280 (b + 7 + k) (dm_I σ 280 (b + 7 + k) + v k)) = rowS σ (p1X (dm_I σ 280) v b (k + 1)) := by rw [rowS_up, p1X_step]
    have join : xw S (d + 5) (some .int) qX12_passes kX12_passes_57 ls [.int (v k)] (rowS σ (p1X (dm_I σ 280) v b k)) Q ↔ R := by
      simp only [kX12_passes_170, kX12_passes_162, kX12_passes_161, kX12_passes_90, kX12_passes_57, kX12_passes_56, kX12_passes_0, gX12_passes_18, gX12_passes_31, gX12_passes_41, gX12_passes_53, gX12_passes_84, gX12_passes_96, gX12_passes_154, gX12_passes_158, gX12_passes_167, xi_iadd, xi_isub, xi_imul, xi_irem, xi_iconst, xi_bipush, xi_iload, xi_iload_1, xi_iload_2, xi_iload_3, xi_aload_0, xi_istore, xi_istore_2, xi_istore_3, xi_iinc, xi_dup2, xi_getf, xi_iaload, xi_iastore, xw_v1, xw_v3, xw_goto, xw_icmp, xw_if, xw_iret, dm_ald, dm_ast, dm_at, dm_gf, xk_b13, xk_b19, xk_b7, xk_i0, xk_i1, xk_i5, xv_11_10, xv_11_25, reduceIte, Nat.reduceBEq, Bool.false_eq_true, Bool.true_eq_false, if_true, if_false, Bool.not_true, Bool.not_false, Bool.and_true, Bool.and_false, Bool.true_and, Bool.false_and, xwm_some, xwm_none, xwm_ite, dm_ld, dm_kI, dm_kL, dm_kA, xg_cI, xg_cL, xg_cR, xg_cX, xg_cN, dm_cmp, decide_eq_true_eq, xfI, xfB0, xfB1, xfBi, ite_self, xf00, xf10, xf11, Bool.or_true, Bool.true_or, Bool.or_false, Bool.false_or, Int.reduceToNat, true_and, and_true, and_self, xwt_def, List.map_cons, List.map_nil, List.sum_cons, List.sum_nil, Nat.reduceAdd, Nat.reduceLeDiff, Option.toList, List.cons_append, List.nil_append, List.append_nil, xg_pe, xg_pn, xg_nlI, xg_nlR, dm_rcv, decide_true, xj_top, not_false_eq_true, not_true_eq_false, ite_not, xd10, ls_264 L1, lr_264_10 L1, ls_270 L1, lr_264_25 L1, ls_280 L1, m_tenants L1, hnl, h0, h1, h2, h3, h4, hN1, e2, e7, i7, c7, rowS_280, x7, st]
      exact ih (k + 1) _ (by omega) (xg_nlI (xg_nlI (xg_nlI hnl))) (by rw [xg_pn (xg_nlI (xg_nlI hnl)) rfl, xg_pn (xg_nlI hnl) rfl, xg_pn hnl rfl]; exact h0) (by rw [xg_pn (xg_nlI (xg_nlI hnl)) rfl, xg_pn (xg_nlI hnl) rfl, xg_pn hnl rfl]; exact h1) (by rw [xg_pn (xg_nlI (xg_nlI hnl)) rfl, xg_pe]; rfl) (by rw [xg_pn (xg_nlI (xg_nlI hnl)) rfl, xg_pn (xg_nlI hnl) rfl, xg_pn hnl rfl]; exact h3) xg_pe
    unfold kX12_passes_12
    by_cases hin : dm_I σ 280 (b + 1 + k) < 0
    · rw [if_pos hin] at hvk
      rw [hvk] at join
      simp only [kX12_passes_170, kX12_passes_162, kX12_passes_161, kX12_passes_90, kX12_passes_56, kX12_passes_0, gX12_passes_18, gX12_passes_31, gX12_passes_41, gX12_passes_53, gX12_passes_84, gX12_passes_96, gX12_passes_154, gX12_passes_158, gX12_passes_167, xi_iadd, xi_isub, xi_imul, xi_irem, xi_iconst, xi_bipush, xi_iload, xi_iload_1, xi_iload_2, xi_iload_3, xi_aload_0, xi_istore, xi_istore_2, xi_istore_3, xi_iinc, xi_dup2, xi_getf, xi_iaload, xi_iastore, xw_v1, xw_v3, xw_goto, xw_icmp, xw_if, xw_iret, dm_ald, dm_ast, dm_at, dm_gf, xk_b13, xk_b19, xk_b7, xk_i0, xk_i1, xk_i5, xv_11_10, xv_11_25, reduceIte, Nat.reduceBEq, Bool.false_eq_true, Bool.true_eq_false, if_true, if_false, Bool.not_true, Bool.not_false, Bool.and_true, Bool.and_false, Bool.true_and, Bool.false_and, xwm_some, xwm_none, xwm_ite, dm_ld, dm_kI, dm_kL, dm_kA, xg_cI, xg_cL, xg_cR, xg_cX, xg_cN, dm_cmp, decide_eq_true_eq, xfI, xfB0, xfB1, xfBi, ite_self, xf00, xf10, xf11, Bool.or_true, Bool.true_or, Bool.or_false, Bool.false_or, Int.reduceToNat, true_and, and_true, and_self, xwt_def, List.map_cons, List.map_nil, List.sum_cons, List.sum_nil, Nat.reduceAdd, Nat.reduceLeDiff, Option.toList, List.cons_append, List.nil_append, List.append_nil, xg_pe, xg_pn, xg_nlI, xg_nlR, rowS_280, dm_rcv, decide_true, xj_top, not_false_eq_true, not_true_eq_false, ite_not, xd10, ls_264 L1, lr_264_10 L1, ls_270 L1, lr_264_25 L1, ls_280 L1, m_tenants L1, hnl, h0, h1, h2, h3, h4, hN1, hc, eb, ib, cb, xb, hev, hnow, hI, hz, hin]
      exact join
    · rw [if_neg hin] at hvk
      obtain ⟨r, hr6, hr⟩ := (hroom k (by omega)).resolve_left hin
      have hP0 := fun Q' => m_pulseOf (S := S) (d := d) (Q := Q') (σ := rowS σ (p1X (dm_I σ 280) v b k)) (j := k) (r := r) L1 hn hN1 (show k < n by omega) hb (by rw [rowS_280, p1X_out _ _ (Or.inl (by omega))]; exact hr) hr6
      have hpe : plV (dm_I (rowS σ (p1X (dm_I σ 280) v b k)) 270 (26 + 5 * k + 1) + if dm_I (rowS σ (p1X (dm_I σ 280) v b k)) 270 (26 + 5 * k) = 3 then 20 else 0) (dm_I (rowS σ (p1X (dm_I σ 280) v b k)) 280 (b + 13 + k)) (dm_I (rowS σ (p1X (dm_I σ 280) v b k)) 270 (8 + 3 * r + 1)) (dm_I (rowS σ (p1X (dm_I σ 280) v b k)) 280 (b + 19 + k)) (dm_I (rowS σ (p1X (dm_I σ 280) v b k)) 264 28) (lvF (fun e => dm_I (rowS σ (p1X (dm_I σ 280) v b k)) 270 (56 + 6 * k + e)) (fun e => dm_I (rowS σ (p1X (dm_I σ 280) v b k)) 280 (b + 1 + e)) n 0 0) = pRv (dm_I σ 270) (dm_I σ 280) (dm_I σ 264 28) n b k := by
        rw [rowS_280, rowS_ne σ _ (show ¬ 270 = 280 by decide), rowS_ne σ _ (show ¬ 264 = 280 by decide), p1X_out _ _ (show b + 13 + k < b + 7 ∨ b + 7 + k ≤ b + 13 + k from Or.inr (by omega)), p1X_out _ _ (show b + 19 + k < b + 7 ∨ b + 7 + k ≤ b + 19 + k from Or.inr (by omega)),
          lvF_congr (f' := fun e => dm_I σ 270 (56 + 6 * k + e)) (g' := fun e => dm_I σ 280 (b + 1 + e)) n 0 0 (fun e h1 h2 => ⟨rfl, p1X_out _ _ (Or.inl (by omega))⟩)]
        unfold pRv rsV
        rw [hr, nI_clamp (by omega)]
      rw [hpe] at hP0
      have hP : ∀ Q' : Option Value → dm_St → Prop, xc S (d + 5) 205 [.ref 264, .int (nI b), .int (nI k)] (rowS σ (p1X (dm_I σ 280) v b k)) Q' ↔ Q' (some (.int (pRv (dm_I σ 270) (dm_I σ 280) (dm_I σ 264 28) n b k))) (rowS σ (p1X (dm_I σ 280) v b k)) := hP0
      rw [hvk] at join
      simp only [kX12_passes_170, kX12_passes_162, kX12_passes_161, kX12_passes_90, kX12_passes_56, kX12_passes_0, gX12_passes_18, gX12_passes_31, gX12_passes_41, gX12_passes_53, gX12_passes_84, gX12_passes_96, gX12_passes_154, gX12_passes_158, gX12_passes_167, xi_iadd, xi_isub, xi_imul, xi_irem, xi_iconst, xi_bipush, xi_iload, xi_iload_1, xi_iload_2, xi_iload_3, xi_aload_0, xi_istore, xi_istore_2, xi_istore_3, xi_iinc, xi_dup2, xi_getf, xi_iaload, xi_iastore, xw_v1, xw_v3, xw_goto, xw_icmp, xw_if, xw_iret, dm_ald, dm_ast, dm_at, dm_gf, xk_b13, xk_b19, xk_b7, xk_i0, xk_i1, xk_i5, xv_11_10, xv_11_25, reduceIte, Nat.reduceBEq, Bool.false_eq_true, Bool.true_eq_false, if_true, if_false, Bool.not_true, Bool.not_false, Bool.and_true, Bool.and_false, Bool.true_and, Bool.false_and, xwm_some, xwm_none, xwm_ite, dm_ld, dm_kI, dm_kL, dm_kA, xg_cI, xg_cL, xg_cR, xg_cX, xg_cN, dm_cmp, decide_eq_true_eq, xfI, xfB0, xfB1, xfBi, ite_self, xf00, xf10, xf11, Bool.or_true, Bool.true_or, Bool.or_false, Bool.false_or, Int.reduceToNat, true_and, and_true, and_self, xwt_def, List.map_cons, List.map_nil, List.sum_cons, List.sum_nil, Nat.reduceAdd, Nat.reduceLeDiff, Option.toList, List.cons_append, List.nil_append, List.append_nil, xg_pe, xg_pn, xg_nlI, xg_nlR, rowS_280, dm_rcv, decide_true, xj_top, not_false_eq_true, not_true_eq_false, ite_not, xd10, ls_264 L1, lr_264_10 L1, ls_270 L1, lr_264_25 L1, ls_280 L1, m_tenants L1, hnl, h0, h1, h2, h3, h4, hN1, hc, eb, ib, cb, xb, hev, hnow, hI, hz, hin, hP]
      exact join
