/-! The class: facts by the house's row; what is due, noons. -/
theorem cf_room_0 {S : dm_Sc} {d : Nat} {g : Nat × Nat} {I : Nat → Nat → Int32} {L : Nat → Nat → Int64} {R : Nat → Nat → Value} {Q : Option Value → dm_St → Prop} (hR : LR R) {h nr n ne : Nat} {H : Nat → Int32} (hh : h ∈ ly_Ho) (w : WFH H nr n ne) (hp : HP I h H nr n ne) {r : Nat} (hr : r < nr) : xc S (d + 1) 86 [.ref (h + 1), .int 0, .int (nI r)] (Mk g I L R) Q ↔ Q (some (.int (H (8 + 3 * r)))) (Mk g I L R) := by
  rw [← (hp.2.1 r hr).1]
  exact c_fact_T3_0_in (σ := Mk g I L R) hR.lay (ly_Ho_in h hh).2.1 w.1.2.2.2.1 hp.1.1 hr
theorem cf_err_0 {S : dm_Sc} {d : Nat} {g : Nat × Nat} {I : Nat → Nat → Int32} {L : Nat → Nat → Int64} {R : Nat → Nat → Value} {Q : Option Value → dm_St → Prop} (hR : LR R) {h nr n ne : Nat} {H : Nat → Int32} (hh : h ∈ ly_Ho) (w : WFH H nr n ne) (hp : HP I h H nr n ne) {r : Nat} (hr : r < ne) : xc S (d + 1) 86 [.ref (h + 17), .int 0, .int (nI r)] (Mk g I L R) Q ↔ Q (some (.int (H (92 + 3 * r)))) (Mk g I L R) := by
  rw [← (hp.2.2.2 r hr).1]
  exact c_fact_T3_0_in (σ := Mk g I L R) hR.lay (ly_Ho_in h hh).2.2 w.1.2.2.2.2.2 hp.1.2.2.1 hr
theorem cf_room_1 {S : dm_Sc} {d : Nat} {g : Nat × Nat} {I : Nat → Nat → Int32} {L : Nat → Nat → Int64} {R : Nat → Nat → Value} {Q : Option Value → dm_St → Prop} (hR : LR R) {h nr n ne : Nat} {H : Nat → Int32} (hh : h ∈ ly_Ho) (w : WFH H nr n ne) (hp : HP I h H nr n ne) {r : Nat} (hr : r < nr) : xc S (d + 1) 86 [.ref (h + 1), .int 1, .int (nI r)] (Mk g I L R) Q ↔ Q (some (.int (H (8 + 3 * r + 1)))) (Mk g I L R) := by
  rw [← (hp.2.1 r hr).2.1]
  exact c_fact_T3_1_in (σ := Mk g I L R) hR.lay (ly_Ho_in h hh).2.1 w.1.2.2.2.1 hp.1.1 hr
theorem cf_err_1 {S : dm_Sc} {d : Nat} {g : Nat × Nat} {I : Nat → Nat → Int32} {L : Nat → Nat → Int64} {R : Nat → Nat → Value} {Q : Option Value → dm_St → Prop} (hR : LR R) {h nr n ne : Nat} {H : Nat → Int32} (hh : h ∈ ly_Ho) (w : WFH H nr n ne) (hp : HP I h H nr n ne) {r : Nat} (hr : r < ne) : xc S (d + 1) 86 [.ref (h + 17), .int 1, .int (nI r)] (Mk g I L R) Q ↔ Q (some (.int (H (92 + 3 * r + 1)))) (Mk g I L R) := by
  rw [← (hp.2.2.2 r hr).2.1]
  exact c_fact_T3_1_in (σ := Mk g I L R) hR.lay (ly_Ho_in h hh).2.2 w.1.2.2.2.2.2 hp.1.2.2.1 hr
theorem cf_room_2 {S : dm_Sc} {d : Nat} {g : Nat × Nat} {I : Nat → Nat → Int32} {L : Nat → Nat → Int64} {R : Nat → Nat → Value} {Q : Option Value → dm_St → Prop} (hR : LR R) {h nr n ne : Nat} {H : Nat → Int32} (hh : h ∈ ly_Ho) (w : WFH H nr n ne) (hp : HP I h H nr n ne) {r : Nat} (hr : r < nr) : xc S (d + 1) 86 [.ref (h + 1), .int 2, .int (nI r)] (Mk g I L R) Q ↔ Q (some (.int (H (8 + 3 * r + 2)))) (Mk g I L R) := by
  rw [← (hp.2.1 r hr).2.2]
  exact c_fact_T3_2_in (σ := Mk g I L R) hR.lay (ly_Ho_in h hh).2.1 w.1.2.2.2.1 hp.1.1 hr
theorem cf_err_2 {S : dm_Sc} {d : Nat} {g : Nat × Nat} {I : Nat → Nat → Int32} {L : Nat → Nat → Int64} {R : Nat → Nat → Value} {Q : Option Value → dm_St → Prop} (hR : LR R) {h nr n ne : Nat} {H : Nat → Int32} (hh : h ∈ ly_Ho) (w : WFH H nr n ne) (hp : HP I h H nr n ne) {r : Nat} (hr : r < ne) : xc S (d + 1) 86 [.ref (h + 17), .int 2, .int (nI r)] (Mk g I L R) Q ↔ Q (some (.int (H (92 + 3 * r + 2)))) (Mk g I L R) := by
  rw [← (hp.2.2.2 r hr).2.2]
  exact c_fact_T3_2_in (σ := Mk g I L R) hR.lay (ly_Ho_in h hh).2.2 w.1.2.2.2.2.2 hp.1.2.2.1 hr
theorem cf_ten_0 {S : dm_Sc} {d : Nat} {g : Nat × Nat} {I : Nat → Nat → Int32} {L : Nat → Nat → Int64} {R : Nat → Nat → Value} {Q : Option Value → dm_St → Prop} (hR : LR R) {h nr n ne : Nat} {H : Nat → Int32} (hh : h ∈ ly_Ho) (w : WFH H nr n ne) (hp : HP I h H nr n ne) {r : Nat} (hr : r < n) : xc S (d + 1) 86 [.ref (h + 7), .int 0, .int (nI r)] (Mk g I L R) Q ↔ Q (some (.int (H (26 + 5 * r)))) (Mk g I L R) := by
  rw [← (hp.2.2.1 r hr).1]
  exact c_fact_T7_0_in (σ := Mk g I L R) hR.lay (ly_Ho_in h hh).1 w.1.2.2.2.2.1 hp.1.2.1 hr
theorem cf_ten_1 {S : dm_Sc} {d : Nat} {g : Nat × Nat} {I : Nat → Nat → Int32} {L : Nat → Nat → Int64} {R : Nat → Nat → Value} {Q : Option Value → dm_St → Prop} (hR : LR R) {h nr n ne : Nat} {H : Nat → Int32} (hh : h ∈ ly_Ho) (w : WFH H nr n ne) (hp : HP I h H nr n ne) {r : Nat} (hr : r < n) : xc S (d + 1) 86 [.ref (h + 7), .int 1, .int (nI r)] (Mk g I L R) Q ↔ Q (some (.int (H (26 + 5 * r + 1)))) (Mk g I L R) := by
  rw [← (hp.2.2.1 r hr).2.1]
  exact c_fact_T7_1_in (σ := Mk g I L R) hR.lay (ly_Ho_in h hh).1 w.1.2.2.2.2.1 hp.1.2.1 hr
theorem cf_ten_2 {S : dm_Sc} {d : Nat} {g : Nat × Nat} {I : Nat → Nat → Int32} {L : Nat → Nat → Int64} {R : Nat → Nat → Value} {Q : Option Value → dm_St → Prop} (hR : LR R) {h nr n ne : Nat} {H : Nat → Int32} (hh : h ∈ ly_Ho) (w : WFH H nr n ne) (hp : HP I h H nr n ne) {r : Nat} (hr : r < n) : xc S (d + 1) 86 [.ref (h + 7), .int 2, .int (nI r)] (Mk g I L R) Q ↔ Q (some (.int (H (26 + 5 * r + 2)))) (Mk g I L R) := by
  rw [← (hp.2.2.1 r hr).2.2.1]
  exact c_fact_T7_2_in (σ := Mk g I L R) hR.lay (ly_Ho_in h hh).1 w.1.2.2.2.2.1 hp.1.2.1 hr
theorem cf_ten_3 {S : dm_Sc} {d : Nat} {g : Nat × Nat} {I : Nat → Nat → Int32} {L : Nat → Nat → Int64} {R : Nat → Nat → Value} {Q : Option Value → dm_St → Prop} (hR : LR R) {h nr n ne : Nat} {H : Nat → Int32} (hh : h ∈ ly_Ho) (w : WFH H nr n ne) (hp : HP I h H nr n ne) {r : Nat} (hr : r < n) : xc S (d + 1) 86 [.ref (h + 7), .int 3, .int (nI r)] (Mk g I L R) Q ↔ Q (some (.int (H (26 + 5 * r + 3)))) (Mk g I L R) := by
  rw [← (hp.2.2.1 r hr).2.2.2.1]
  exact c_fact_T7_3_in (σ := Mk g I L R) hR.lay (ly_Ho_in h hh).1 w.1.2.2.2.2.1 hp.1.2.1 hr
theorem cf_ten_4 {S : dm_Sc} {d : Nat} {g : Nat × Nat} {I : Nat → Nat → Int32} {L : Nat → Nat → Int64} {R : Nat → Nat → Value} {Q : Option Value → dm_St → Prop} (hR : LR R) {h nr n ne : Nat} {H : Nat → Int32} (hh : h ∈ ly_Ho) (w : WFH H nr n ne) (hp : HP I h H nr n ne) {r : Nat} (hr : r < n) : xc S (d + 1) 86 [.ref (h + 7), .int 4, .int (nI r)] (Mk g I L R) Q ↔ Q (some (.int (H (26 + 5 * r + 4)))) (Mk g I L R) := by
  rw [← (hp.2.2.1 r hr).2.2.2.2.1]
  exact c_fact_T7_4_in (σ := Mk g I L R) hR.lay (ly_Ho_in h hh).1 w.1.2.2.2.2.1 hp.1.2.1 hr
theorem cf_ten_5 {S : dm_Sc} {d : Nat} {g : Nat × Nat} {I : Nat → Nat → Int32} {L : Nat → Nat → Int64} {R : Nat → Nat → Value} {Q : Option Value → dm_St → Prop} (hR : LR R) {h nr n ne : Nat} {H : Nat → Int32} (hh : h ∈ ly_Ho) (w : WFH H nr n ne) (hp : HP I h H nr n ne) {r : Nat} (hr : r < n) : xc S (d + 1) 86 [.ref (h + 7), .int 5, .int (nI r)] (Mk g I L R) Q ↔ Q (some (.int (bB (loB H r)))) (Mk g I L R) := by
  rw [← (hp.2.2.1 r hr).2.2.2.2.2.1]
  exact c_fact_T7_5_in (σ := Mk g I L R) hR.lay (ly_Ho_in h hh).1 w.1.2.2.2.2.1 hp.1.2.1 hr
theorem cf_ten_6 {S : dm_Sc} {d : Nat} {g : Nat × Nat} {I : Nat → Nat → Int32} {L : Nat → Nat → Int64} {R : Nat → Nat → Value} {Q : Option Value → dm_St → Prop} (hR : LR R) {h nr n ne : Nat} {H : Nat → Int32} (hh : h ∈ ly_Ho) (w : WFH H nr n ne) (hp : HP I h H nr n ne) {r : Nat} (hr : r < n) : xc S (d + 1) 86 [.ref (h + 7), .int 6, .int (nI r)] (Mk g I L R) Q ↔ Q (some (.int (rsV H r))) (Mk g I L R) := by
  rw [← (hp.2.2.1 r hr).2.2.2.2.2.2]
  exact c_fact_T7_6_in (σ := Mk g I L R) hR.lay (ly_Ho_in h hh).1 w.1.2.2.2.2.1 hp.1.2.1 hr
theorem c_isKindH {S : dm_Sc} {d : Nat} {g : Nat × Nat} {I : Nat → Nat → Int32} {L : Nat → Nat → Int64} {R : Nat → Nat → Value} {Q : Option Value → dm_St → Prop} (hR : LR R) {h nr n ne : Nat} {H : Nat → Int32} (hh : h ∈ ly_Ho) (w : WFH H nr n ne) (hp : HP I h H nr n ne) {t : Nat} (ht : t < n) (k : Int32) : xc S (d + 2) 31 [.ref h, .int (nI t), .int k] (Mk g I L R) Q ↔ Q (some (.int (if H (26 + 5 * t) = k then 1 else 0))) (Mk g I L R) := by
  rw [← (hp.2.2.1 t ht).1]
  exact c_isKind (σ := Mk g I L R) hR.lay hh w.1.2.2.2.2.1 hp.1.2.1 ht k
theorem cl9_max (v : Int32) : (if 0 < (if v < 9999 then v else 9999) then (if v < 9999 then v else 9999) else 0) = clamp9 v := by
  unfold clamp9
  by_cases h : v < 0
  · have h9 : v < 9999 := Int32.lt_trans h (by decide)
    rw [if_pos h9, if_pos h, if_neg (Int32.not_lt.mpr (Int32.le_of_lt h))]
  · by_cases h2 : 9999 < v
    · rw [if_neg h, if_pos h2, if_neg (Int32.not_lt.mpr (Int32.le_of_lt h2)), if_pos (by decide)]
    · rw [if_neg h, if_neg h2]
      have h0 := Int32.not_lt.mp h
      have h9 := Int32.not_lt.mp h2
      by_cases e : v < 9999
      · rw [if_pos e]
        by_cases z : 0 < v
        · rw [if_pos z]
        · rw [if_neg z]; exact Int32.le_antisymm h0 (Int32.not_lt.mp z)
      · rw [if_neg e, if_pos (by decide)]; exact Int32.le_antisymm (Int32.not_lt.mp e) h9
theorem scr_D {h : Nat} (hh : h ∈ ly_Ho) {p : Nat} (hp : ¬ scr p) : ¬ p = h + 23 + 2 ∧ ¬ p = h + 23 + 3 ∧ ¬ p = h + 27 + 2 ∧ ¬ p = h + 27 + 3 := by
  unfold scr at hp
  rcases ly_Ho2 hh with rfl | rfl <;> omega
theorem ly_HF : ∀ h ∈ ly_Ho, h + 23 ∈ ly_Fo ∧ h + 27 ∈ ly_Fo := by decide
theorem c_dueFor {S : dm_Sc} {d : Nat} {g : Nat × Nat} {I : Nat → Nat → Int32} {L : Nat → Nat → Int64} {R : Nat → Nat → Value} (hR : LR R) {h : Nat} (hh : h ∈ ly_Ho) {D : Fml} (hD : CFm I (h + 23) cfD faD D) (x y z : Int32) : xc S (d + 3) 36 [.ref h, .int x, .int y, .int z] (Mk g I L R) (Ri (dueV D x y z) g L R (fun I' => ∀ p, ¬ scr p → I' p = I p)) := by
  obtain ⟨u0, u1, u2, u3, u4, u5⟩ := Ho_of hR hh
  obtain ⟨hT, hRo, hE⟩ := ly_Ho_in h hh
  obtain ⟨ts0, -⟩ := T7_of hR hT
  obtain ⟨rs0, -⟩ := T3_of hR hRo
  obtain ⟨es0, -⟩ := T3_of hR hE
  have hF := (ly_HF h hh).1
  obtain ⟨f0, -⟩ := Fo_of hR hF
  rw [iv_X2_dueFor]
  cases D with
  | none =>
    have h5 : I (h + 23) 5 = 0 := hD
    simp (disch := omega) only [kX2_dueFor_27, kX2_dueFor_24, kX2_dueFor_0, gX2_dueFor_7, gX2_dueFor_21, xi_iadd, xi_iconst, xi_sipush, xi_getf, xw_v5, xw_goto, xw_if, xw_iret, xw_max, xw_min, xl_aload_0, xl_bload_0, xl_iload_1, xl_iload_2, xl_iload_3, xl_iload_4, xl_istore_4, dm_gf, xk_i0, xk_s9999, xv_1_5, xv_2_3, reduceIte, Nat.reduceBEq, Bool.false_eq_true, Bool.true_eq_false, if_true, if_false, Bool.not_true, Bool.not_false, Bool.and_true, Bool.and_false, Bool.true_and, Bool.false_and, xwm_some, xwm_none, xwm_ite, kl_I, kl_R, kl_X, kl_N, kl_L, dm_cmp, decide_eq_true_eq, decide_true, decide_false, xfI, xfB0, xfB1, xfBi, ite_self, xf00, xf10, xf11, Bool.or_true, Bool.true_or, Bool.or_false, Bool.false_or, Int.reduceToNat, true_and, and_true, and_self, false_and, and_false, not_false_eq_true, not_true_eq_false, ite_not, xwt_def, xg_cI, xg_cL, xg_cR, xg_cX, xg_cN, List.map_cons, List.map_nil, List.sum_cons, List.sum_nil, Nat.reduceAdd, Nat.reduceMul, Nat.reduceLeDiff, Option.toList, List.cons_append, List.nil_append, List.append_nil, dm_rcvR, dm_rcvX, mkI, mkL, mkR, mkS, mk_I, mk_L, mk_R, xd10, xd2, xd3, xd4, ite_T, ite_F, xz_0, xz_1, xz_2, xz_3, xz_4, xz_5, xz_6, xz_7, xz_8, xz_10, xz_13, xz_19, xz_25, xz_26, xz_31, xz_37, xz_43, xz_44, xz_56, xz_92, xy_0, xy_1, xy_2, xy_3, xy_4, xy_5, xy_6, xy_7, xy_8, xy_10, xy_13, xy_19, xy_25, xy_26, xy_31, xy_37, xy_43, xy_44, xy_56, xy_92, xi_add, xi_in, xi_cl, xi_le, xi_lt, xi_eq, xi_m1, xi_lt0, xi_ge0, xa_0, xle_0, xg_0, xq_0, xa_9999, xp_9999, xu_9999, xl_9999, xg_9999, xle_9999, xge_9999, xq_9999, xs_9999, dm_upe, dm_upi, dm_upp, u0, u1, u2, u3, u4, u5, ts0, rs0, es0, f0, h5, cl9_max]
    exact ⟨rfl, _, rfl, fun p _ => rfl⟩
  | some c =>
    obtain ⟨h5, hc, wc⟩ := hD
    simp (disch := omega) only [kX2_dueFor_24, kX2_dueFor_0, gX2_dueFor_7, gX2_dueFor_21, xi_iadd, xi_iconst, xi_sipush, xi_getf, xw_v5, xw_goto, xw_if, xw_iret, xw_max, xw_min, xl_aload_0, xl_bload_0, xl_iload_1, xl_iload_2, xl_iload_3, xl_iload_4, xl_istore_4, dm_gf, xk_i0, xk_s9999, xv_1_5, xv_2_3, reduceIte, Nat.reduceBEq, Bool.false_eq_true, Bool.true_eq_false, if_true, if_false, Bool.not_true, Bool.not_false, Bool.and_true, Bool.and_false, Bool.true_and, Bool.false_and, xwm_some, xwm_none, xwm_ite, kl_I, kl_R, kl_X, kl_N, kl_L, dm_cmp, decide_eq_true_eq, decide_true, decide_false, xfI, xfB0, xfB1, xfBi, ite_self, xf00, xf10, xf11, Bool.or_true, Bool.true_or, Bool.or_false, Bool.false_or, Int.reduceToNat, true_and, and_true, and_self, false_and, and_false, not_false_eq_true, not_true_eq_false, ite_not, xwt_def, xg_cI, xg_cL, xg_cR, xg_cX, xg_cN, List.map_cons, List.map_nil, List.sum_cons, List.sum_nil, Nat.reduceAdd, Nat.reduceMul, Nat.reduceLeDiff, Option.toList, List.cons_append, List.nil_append, List.append_nil, dm_rcvR, dm_rcvX, mkI, mkL, mkR, mkS, mk_I, mk_L, mk_R, xd10, xd2, xd3, xd4, ite_T, ite_F, xz_0, xz_1, xz_2, xz_3, xz_4, xz_5, xz_6, xz_7, xz_8, xz_10, xz_13, xz_19, xz_25, xz_26, xz_31, xz_37, xz_43, xz_44, xz_56, xz_92, xy_0, xy_1, xy_2, xy_3, xy_4, xy_5, xy_6, xy_7, xy_8, xy_10, xy_13, xy_19, xy_25, xy_26, xy_31, xy_37, xy_43, xy_44, xy_56, xy_92, xi_add, xi_in, xi_cl, xi_le, xi_lt, xi_eq, xi_m1, xi_lt0, xi_ge0, xa_0, xle_0, xg_0, xq_0, xa_9999, xp_9999, xu_9999, xl_9999, xg_9999, xle_9999, xge_9999, xq_9999, xs_9999, dm_upe, dm_upi, dm_upp, u0, u1, u2, u3, u4, u5, ts0, rs0, es0, f0, h5]
    refine xc_mono (c_value hR hF (fa := faD) (cf := cfD) (fun a ha => by unfold faD at ha; unfold cfD; omega) hc wc x y z 0 (fM := fun a => if a = 0 then x else if a = 1 then y else z) (fun a ha => by
      unfold faD at ha
      rcases (show a = 0 ∨ a = 1 ∨ a = 2 by omega) with rfl | rfl | rfl <;> rfl)) ?_
    rintro _ _ ⟨rfl, I', rfl, hI⟩
    simp (disch := omega) only [kX2_dueFor_27, kX2_dueFor_24, kX2_dueFor_0, gX2_dueFor_7, gX2_dueFor_21, xi_iadd, xi_iconst, xi_sipush, xi_getf, xw_v5, xw_goto, xw_if, xw_iret, xw_max, xw_min, xl_aload_0, xl_bload_0, xl_iload_1, xl_iload_2, xl_iload_3, xl_iload_4, xl_istore_4, dm_gf, xk_i0, xk_s9999, xv_1_5, xv_2_3, reduceIte, Nat.reduceBEq, Bool.false_eq_true, Bool.true_eq_false, if_true, if_false, Bool.not_true, Bool.not_false, Bool.and_true, Bool.and_false, Bool.true_and, Bool.false_and, xwm_some, xwm_none, xwm_ite, kl_I, kl_R, kl_X, kl_N, kl_L, dm_cmp, decide_eq_true_eq, decide_true, decide_false, xfI, xfB0, xfB1, xfBi, ite_self, xf00, xf10, xf11, Bool.or_true, Bool.true_or, Bool.or_false, Bool.false_or, Int.reduceToNat, true_and, and_true, and_self, false_and, and_false, not_false_eq_true, not_true_eq_false, ite_not, xwt_def, xg_cI, xg_cL, xg_cR, xg_cX, xg_cN, List.map_cons, List.map_nil, List.sum_cons, List.sum_nil, Nat.reduceAdd, Nat.reduceMul, Nat.reduceLeDiff, Option.toList, List.cons_append, List.nil_append, List.append_nil, dm_rcvR, dm_rcvX, mkI, mkL, mkR, mkS, mk_I, mk_L, mk_R, xd10, xd2, xd3, xd4, ite_T, ite_F, xz_0, xz_1, xz_2, xz_3, xz_4, xz_5, xz_6, xz_7, xz_8, xz_10, xz_13, xz_19, xz_25, xz_26, xz_31, xz_37, xz_43, xz_44, xz_56, xz_92, xy_0, xy_1, xy_2, xy_3, xy_4, xy_5, xy_6, xy_7, xy_8, xy_10, xy_13, xy_19, xy_25, xy_26, xy_31, xy_37, xy_43, xy_44, xy_56, xy_92, xi_add, xi_in, xi_cl, xi_le, xi_lt, xi_eq, xi_m1, xi_lt0, xi_ge0, xa_0, xle_0, xg_0, xq_0, xa_9999, xp_9999, xu_9999, xl_9999, xg_9999, xle_9999, xge_9999, xq_9999, xs_9999, dm_upe, dm_upi, dm_upp, u0, u1, u2, u3, u4, u5, ts0, rs0, es0, cl9_max]
    exact ⟨rfl, _, rfl, fun p hs => hI p (scr_D hh hs).1 (scr_D hh hs).2.1⟩
theorem c_dueOf {S : dm_Sc} {d : Nat} {g : Nat × Nat} {I : Nat → Nat → Int32} {L : Nat → Nat → Int64} {R : Nat → Nat → Value} (hR : LR R) {h q nr n ne K : Nat} {H B : Nat → Int32} {br : Int32} {D W : Fml} (hh : h ∈ ly_Ho) (hq : q ∈ ly_St) (w : WFH H nr n ne) (hc : HC I h H nr n ne D W) (wb : WFB nr n K B) (c : CP I q br B) {j : Nat} (hj : j < 6) (hi : ¬ B (1 + j) = -1) : xc S (d + 4) 76 [.ref q, .ref h, .int (nI j)] (Mk g I L R) (Ri (dueB H D B j) g L R (fun I' => ∀ p, ¬ scr p → I' p = I p)) := by
  obtain ⟨s0, r3, r4, r5, r6, r7, r8, a1, a2, a3, a4, a5, a6⟩ := St_of hR hq
  obtain ⟨u0, u1, u2, u3, u4, u5⟩ := Ho_of hR hh
  obtain ⟨hT, hRo, hE⟩ := ly_Ho_in h hh
  obtain ⟨ts0, -⟩ := T7_of hR hT
  obtain ⟨rs0, -⟩ := T3_of hR hRo
  obtain ⟨es0, -⟩ := T3_of hR hE
  obtain ⟨hjn, r, hr, er⟩ := (wb.1 j hj).resolve_left hi
  have hI := fun Q => c_isInC (S := S) (d := d + 2) (g := g) (L := L) (Q := Q) hR hq c hj
  have q1 := (c.2.1 j hj).trans er
  have q5 := c.2.2.2.2.2.1 j hj
  have f2 := fun Q => cf_room_2 (S := S) (d := d + 2) (g := g) (L := L) (Q := Q) hR hh w hc.1 hr
  have t0 := fun Q => cf_ten_0 (S := S) (d := d + 2) (g := g) (L := L) (Q := Q) hR hh w hc.1 hjn
  rw [iv_X7_dueOf]
  simp (disch := omega) only [kX7_dueOf_10, kX7_dueOf_0, gX7_dueOf_5, xi_iconst, xi_getf, xi_iaload, xw_v2, xw_v3, xw_v4, xw_if, xw_iret, xl_aload_0, xl_aload_1, xl_bload_0, xl_bload_1, xl_iload_2, xl_iload_3, xl_istore_3, dm_ald, dm_gf, xk_i0, xk_i2, xk_im1, xv_2_0, xv_2_1, xv_7_3, xv_7_7, reduceIte, Nat.reduceBEq, Bool.false_eq_true, Bool.true_eq_false, if_true, if_false, Bool.not_true, Bool.not_false, Bool.and_true, Bool.and_false, Bool.true_and, Bool.false_and, xwm_some, xwm_none, xwm_ite, kl_I, kl_R, kl_X, kl_N, kl_L, dm_cmp, decide_eq_true_eq, decide_true, decide_false, xfI, xfB0, xfB1, xfBi, ite_self, xf00, xf10, xf11, Bool.or_true, Bool.true_or, Bool.or_false, Bool.false_or, Int.reduceToNat, true_and, and_true, and_self, false_and, and_false, not_false_eq_true, not_true_eq_false, ite_not, xwt_def, xg_cI, xg_cL, xg_cR, xg_cX, xg_cN, List.map_cons, List.map_nil, List.sum_cons, List.sum_nil, Nat.reduceAdd, Nat.reduceMul, Nat.reduceLeDiff, Option.toList, List.cons_append, List.nil_append, List.append_nil, dm_rcvR, dm_rcvX, mkI, mkL, mkR, mkS, mk_I, mk_L, mk_R, xd10, xd2, xd3, xd4, ite_T, ite_F, xz_0, xz_1, xz_2, xz_3, xz_4, xz_5, xz_6, xz_7, xz_8, xz_10, xz_13, xz_19, xz_25, xz_26, xz_31, xz_37, xz_43, xz_44, xz_56, xz_92, xy_0, xy_1, xy_2, xy_3, xy_4, xy_5, xy_6, xy_7, xy_8, xy_10, xy_13, xy_19, xy_25, xy_26, xy_31, xy_37, xy_43, xy_44, xy_56, xy_92, xi_add, xi_in, xi_cl, xi_le, xi_lt, xi_eq, xi_m1, xi_lt0, xi_ge0, xa_0, xle_0, xg_0, xq_0, xa_2, xp_2, xu_2, xl_2, xg_2, xle_2, xge_2, xq_2, xs_2, dm_upe, dm_upi, dm_upp, s0, r3, r4, r5, r6, r7, r8, a1, a2, a3, a4, a5, a6, u0, u1, u2, u3, u4, u5, ts0, rs0, es0, hI, hi, q1, q5, f2, t0]
  refine xc_mono (c_dueFor hR hh hc.2.1 _ _ _) ?_
  rintro _ _ ⟨rfl, I', rfl, hI'⟩
  simp (disch := omega) only [kX7_dueOf_10, kX7_dueOf_0, gX7_dueOf_5, xi_iconst, xi_getf, xi_iaload, xw_v2, xw_v3, xw_v4, xw_if, xw_iret, xl_aload_0, xl_aload_1, xl_bload_0, xl_bload_1, xl_iload_2, xl_iload_3, xl_istore_3, dm_ald, dm_gf, xk_i0, xk_i2, xk_im1, xv_2_0, xv_2_1, xv_7_3, xv_7_7, reduceIte, Nat.reduceBEq, Bool.false_eq_true, Bool.true_eq_false, if_true, if_false, Bool.not_true, Bool.not_false, Bool.and_true, Bool.and_false, Bool.true_and, Bool.false_and, xwm_some, xwm_none, xwm_ite, kl_I, kl_R, kl_X, kl_N, kl_L, dm_cmp, decide_eq_true_eq, decide_true, decide_false, xfI, xfB0, xfB1, xfBi, ite_self, xf00, xf10, xf11, Bool.or_true, Bool.true_or, Bool.or_false, Bool.false_or, Int.reduceToNat, true_and, and_true, and_self, false_and, and_false, not_false_eq_true, not_true_eq_false, ite_not, xwt_def, xg_cI, xg_cL, xg_cR, xg_cX, xg_cN, List.map_cons, List.map_nil, List.sum_cons, List.sum_nil, Nat.reduceAdd, Nat.reduceMul, Nat.reduceLeDiff, Option.toList, List.cons_append, List.nil_append, List.append_nil, dm_rcvR, dm_rcvX, mkI, mkL, mkR, mkS, mk_I, mk_L, mk_R, xd10, xd2, xd3, xd4, ite_T, ite_F, xz_0, xz_1, xz_2, xz_3, xz_4, xz_5, xz_6, xz_7, xz_8, xz_10, xz_13, xz_19, xz_25, xz_26, xz_31, xz_37, xz_43, xz_44, xz_56, xz_92, xy_0, xy_1, xy_2, xy_3, xy_4, xy_5, xy_6, xy_7, xy_8, xy_10, xy_13, xy_19, xy_25, xy_26, xy_31, xy_37, xy_43, xy_44, xy_56, xy_92, xi_add, xi_in, xi_cl, xi_le, xi_lt, xi_eq, xi_m1, xi_lt0, xi_ge0, xa_0, xle_0, xg_0, xq_0, xa_2, xp_2, xu_2, xl_2, xg_2, xle_2, xge_2, xq_2, xs_2, dm_upe, dm_upi, dm_upp, s0, r3, r4, r5, r6, r7, r8, a1, a2, a3, a4, a5, a6]
  refine ⟨?_, _, rfl, hI'⟩
  rw [dueB, er, xi_cl (by have := w.1.2.2.2.1; omega)]
theorem c_dueOf_no {S : dm_Sc} {d : Nat} {g : Nat × Nat} {I : Nat → Nat → Int32} {L : Nat → Nat → Int64} {R : Nat → Nat → Value} {Q : Option Value → dm_St → Prop} (hR : LR R) {h q : Nat} {B : Nat → Int32} {br : Int32} (hq : q ∈ ly_St) (c : CP I q br B) {j : Nat} (hj : j < 6) (hi : B (1 + j) = -1) : xc S (d + 4) 76 [.ref q, .ref h, .int (nI j)] (Mk g I L R) Q ↔ Q (some (.int (-1))) (Mk g I L R) := by
  obtain ⟨s0, r3, r4, r5, r6, r7, r8, a1, a2, a3, a4, a5, a6⟩ := St_of hR hq
  have hI := fun Q => c_isInC (S := S) (d := d + 2) (g := g) (L := L) (Q := Q) hR hq c hj
  rw [iv_X7_dueOf]
  simp (disch := omega) only [kX7_dueOf_10, kX7_dueOf_0, gX7_dueOf_5, xi_iconst, xi_getf, xi_iaload, xw_v2, xw_v3, xw_v4, xw_if, xw_iret, xl_aload_0, xl_aload_1, xl_bload_0, xl_bload_1, xl_iload_2, xl_iload_3, xl_istore_3, dm_ald, dm_gf, xk_i0, xk_i2, xk_im1, xv_2_0, xv_2_1, xv_7_3, xv_7_7, reduceIte, Nat.reduceBEq, Bool.false_eq_true, Bool.true_eq_false, if_true, if_false, Bool.not_true, Bool.not_false, Bool.and_true, Bool.and_false, Bool.true_and, Bool.false_and, xwm_some, xwm_none, xwm_ite, kl_I, kl_R, kl_X, kl_N, kl_L, dm_cmp, decide_eq_true_eq, decide_true, decide_false, xfI, xfB0, xfB1, xfBi, ite_self, xf00, xf10, xf11, Bool.or_true, Bool.true_or, Bool.or_false, Bool.false_or, Int.reduceToNat, true_and, and_true, and_self, false_and, and_false, not_false_eq_true, not_true_eq_false, ite_not, xwt_def, xg_cI, xg_cL, xg_cR, xg_cX, xg_cN, List.map_cons, List.map_nil, List.sum_cons, List.sum_nil, Nat.reduceAdd, Nat.reduceMul, Nat.reduceLeDiff, Option.toList, List.cons_append, List.nil_append, List.append_nil, dm_rcvR, dm_rcvX, mkI, mkL, mkR, mkS, mk_I, mk_L, mk_R, xd10, xd2, xd3, xd4, ite_T, ite_F, xz_0, xz_1, xz_2, xz_3, xz_4, xz_5, xz_6, xz_7, xz_8, xz_10, xz_13, xz_19, xz_25, xz_26, xz_31, xz_37, xz_43, xz_44, xz_56, xz_92, xy_0, xy_1, xy_2, xy_3, xy_4, xy_5, xy_6, xy_7, xy_8, xy_10, xy_13, xy_19, xy_25, xy_26, xy_31, xy_37, xy_43, xy_44, xy_56, xy_92, xi_add, xi_in, xi_cl, xi_le, xi_lt, xi_eq, xi_m1, xi_lt0, xi_ge0, xa_0, xle_0, xg_0, xq_0, xa_2, xp_2, xu_2, xl_2, xg_2, xle_2, xge_2, xq_2, xs_2, dm_upe, dm_upi, dm_upp, s0, r3, r4, r5, r6, r7, r8, a1, a2, a3, a4, a5, a6, hI, hi]
theorem sub_toInt {a c : Nat} (ha : a ≤ 9999) (hc : c ≤ 9999) : (nI a - nI c).toInt = (a : Int) - c := by
  rw [Int32.toInt_sub]
  unfold nI
  rw [Int32.toInt_ofNat_of_lt (by omega), Int32.toInt_ofNat_of_lt (by omega), Int.bmod_def]
  split <;> omega
theorem owes_code {a c : Nat} (ha : a ≤ 9999) (hc : c ≤ 9999) (k : Prop) [Decidable k] : ((if k then (99 : Int32) else 0) < nI a - nI c) = ¬ (nI a ≤ nI c ∨ (k ∧ nI a - nI c ≤ 99)) := by
  have h := sub_toInt ha hc
  have e99 : (nI a - nI c ≤ 99) ↔ ((a : Int) - c ≤ 99) := by rw [Int32.le_iff_toInt_le, h]; rfl
  have e99' : ((99 : Int32) < nI a - nI c) ↔ (99 < (a : Int) - c) := by rw [Int32.lt_iff_toInt_lt, h]; rfl
  have e0' : ((0 : Int32) < nI a - nI c) ↔ (0 < (a : Int) - c) := by rw [Int32.lt_iff_toInt_lt, h]; rfl
  have el : (nI a ≤ nI c) ↔ a ≤ c := nI_leI (by omega) (by omega)
  by_cases hk : k
  · simp only [hk, if_true, true_and, eq_iff_iff, e99', el, e99]; omega
  · simp only [hk, if_false, false_and, or_false, eq_iff_iff, e0', el]; omega
theorem pays_min (due coins : Int32) : (if coins < due then coins else due) = paysV due coins := by
  unfold paysV
  by_cases h : coins < due
  · rw [if_pos h, if_neg (Int32.not_lt.mpr (Int32.le_of_lt h))]
  · rw [if_neg h]
    by_cases h2 : due < coins
    · rw [if_pos h2]
    · rw [if_neg h2]; exact Int32.le_antisymm (Int32.not_lt.mp h) (Int32.not_lt.mp h2)
theorem b6_or : ∀ a0 a1 a2 a3 a4 a5 : Bool, b6 a0 a1 a2 a3 a4 a5 ||| 1 <<< (nI 0 &&& 31) = b6 true a1 a2 a3 a4 a5 ∧ b6 a0 a1 a2 a3 a4 a5 ||| 1 <<< (nI 1 &&& 31) = b6 a0 true a2 a3 a4 a5 ∧ b6 a0 a1 a2 a3 a4 a5 ||| 1 <<< (nI 2 &&& 31) = b6 a0 a1 true a3 a4 a5 ∧ b6 a0 a1 a2 a3 a4 a5 ||| 1 <<< (nI 3 &&& 31) = b6 a0 a1 a2 true a4 a5 ∧ b6 a0 a1 a2 a3 a4 a5 ||| 1 <<< (nI 4 &&& 31) = b6 a0 a1 a2 a3 true a5 ∧ b6 a0 a1 a2 a3 a4 a5 ||| 1 <<< (nI 5 &&& 31) = b6 a0 a1 a2 a3 a4 true := by decide +kernel
theorem go_or (B : Nat → Int32) {j : Nat} (hj : j < 6) : bB (goB B) ||| 1 <<< (nI j &&& 31) = bB (goB (upd B (37 + j) 1)) := by
  have h := b6_or (goB B 0) (goB B 1) (goB B 2) (goB B 3) (goB B 4) (goB B 5)
  rcases (show j = 0 ∨ j = 1 ∨ j = 2 ∨ j = 3 ∨ j = 4 ∨ j = 5 by omega) with rfl | rfl | rfl | rfl | rfl | rfl
  · exact h.1
  · exact h.2.1
  · exact h.2.2.1
  · exact h.2.2.2.1
  · exact h.2.2.2.2.1
  · exact h.2.2.2.2.2
theorem CP.upG {I : Nat → Nat → Int32} {q j : Nat} {br : Int32} {B : Nat → Int32} (c : CP I q br B) (hj : j < 6) : CP (dm_up I q 1 (bB (goB B) ||| 1 <<< (nI j &&& 31))) q br (upd B (37 + j) 1) := by
  refine ⟨⟨by rw [dm_upi (by decide), upd_ne (by omega)]; exact c.1.1, by rw [dm_upe, go_or _ hj], by rw [dm_upi (by decide)]; exact c.1.2.2⟩, ?_⟩
  refine ⟨fun t ht => ?_, fun t ht => ?_, fun t ht => ?_, fun t ht => ?_, fun t ht => ?_, fun t ht => ?_⟩ <;> rw [dm_upp (by omega), upd_ne (by omega)]
  · exact c.2.1 t ht
  · exact c.2.2.1 t ht
  · exact c.2.2.2.1 t ht
  · exact c.2.2.2.2.1 t ht
  · exact c.2.2.2.2.2.1 t ht
  · exact c.2.2.2.2.2.2 t ht
theorem clr_at (B : Nat → Int32) (n i : Nat) : itB clrS n B i = if 7 ≤ i ∧ i < 7 + n then 0 else B i := by
  induction n with
  | zero => rw [if_neg (by omega)]; rfl
  | succ n ih =>
    rw [itB_s, clrS]
    by_cases h : i = 7 + n
    · subst h; rw [upd_eq, if_pos (by omega)]
    · rw [upd_ne h, ih]
      have e : (7 ≤ i ∧ i < 7 + (n + 1)) ↔ (7 ≤ i ∧ i < 7 + n) := by omega
      simp only [e]
theorem CP.clr {I : Nat → Nat → Int32} {q nr n K : Nat} {br : Int32} {B : Nat → Int32} (c : CP I q br B) (wb : WFB nr n K B) (hn : n ≤ 6) : CP (dm_row I (q + 5) (filF (I (q + 5)) 6 0)) q br (itB clrS n B) := by
  have e : ∀ i, i < 7 ∨ 13 ≤ i → itB clrS n B i = B i := fun i hi => by rw [clr_at, if_neg (by omega)]
  have eg : bB (goB (itB clrS n B)) = bB (goB B) := by
    simp only [bB, goB]
    rw [e _ (by omega), e _ (by omega), e _ (by omega), e _ (by omega), e _ (by omega), e _ (by omega)]
  refine ⟨⟨by rw [dm_rowp (by omega), e _ (by omega)]; exact c.1.1, by rw [dm_rowp (by omega), eg]; exact c.1.2.1, by rw [dm_rowp (by omega)]; exact c.1.2.2⟩, fun t ht => ?_, fun t ht => ?_, fun t ht => ?_, fun t ht => ?_, fun t ht => ?_, fun t ht => ?_⟩
  · rw [dm_rowp (by omega), e _ (by omega)]; exact c.2.1 t ht
  · rw [dm_rowp (by omega), e _ (by omega)]; exact c.2.2.1 t ht
  · rw [dm_rowp (by omega), e _ (by omega)]; exact c.2.2.2.1 t ht
  · rw [dm_rowp (by omega), e _ (by omega)]; exact c.2.2.2.2.1 t ht
  · rw [dm_rowe, filF, if_pos ht, clr_at]
    by_cases h : t < n
    · rw [if_pos (by omega)]
    · rw [if_neg (by omega)]; exact (wb.2.2.1 t ht (by omega)).1.symm
  · rw [dm_rowp (by omega), e _ (by omega)]; exact c.2.2.2.2.2.2 t ht
theorem CP.sc {I I' : Nat → Nat → Int32} {q : Nat} {br : Int32} {B : Nat → Int32} (c : CP I q br B) (hq : q ∈ ly_St) (f : ∀ p, ¬ scr p → I' p = I p) : CP I' q br B :=
  c.fr (fun p h1 h2 => f p (by have := ly_HS 34 (by decide) q hq; unfold scr; omega))
theorem FrC.sc {q : Nat} {I I' I'' : Nat → Nat → Int32} (h : FrC q I I') (f : ∀ p, ¬ scr p → I'' p = I' p) : FrC q I I'' := fun p hp hs => (f p hs).trans (h p hp hs)
theorem noo_6 {nr n K : Nat} {H B : Nat → Int32} {D : Fml} (wb : WFB nr n K B) (hn : n ≤ 6) : itB (nooS H D) 6 (B, 0) = itB (nooS H D) n (B, 0) := by
  have w2 : WFB nr n K (itB (nooS H D) n (B, 0)).1 := wb.nooI hn (Nat.le_refl n)
  have h := itB_end (nooS H D) (B, (0 : Int32)) (n := n) (6 - n) (fun k h1 h2 => by
    have e : (itB (nooS H D) n (B, 0)).1 (1 + k) = -1 := (w2.1 k (by omega)).resolve_right (fun z => by omega)
    unfold nooS at e ⊢
    rw [if_pos e])
  rw [show n + (6 - n) = 6 by omega] at h
  exact h
theorem c_holdNoon {S : dm_Sc} {d : Nat} {g : Nat × Nat} {I : Nat → Nat → Int32} {L : Nat → Nat → Int64} {R : Nat → Nat → Value} (hR : LR R) {h q nr n ne K : Nat} {H B : Nat → Int32} {br : Int32} {D W : Fml} (hh : h ∈ ly_Ho) (hq : q ∈ ly_St) (w : WFH H nr n ne) (hc : HC I h H nr n ne D W) (wb : WFB nr n K B) (c : CP I q br B) : xc S (d + 5) 77 [.ref q, .ref h] (Mk g I L R) (Ri (nooP H D n B).2 g L R (fun I' => CP I' q br (nooP H D n B).1 ∧ FrC q I I')) := by
  obtain ⟨s0, r3, r4, r5, r6, r7, r8, a1, a2, a3, a4, a5, a6⟩ := St_of hR hq
  obtain ⟨u0, u1, u2, u3, u4, u5⟩ := Ho_of hR hh
  obtain ⟨hT, hRo, hE⟩ := ly_Ho_in h hh
  obtain ⟨ts0, -⟩ := T7_of hR hT
  obtain ⟨rs0, -⟩ := T3_of hR hRo
  obtain ⟨es0, -⟩ := T3_of hR hE
  have hn : n ≤ 6 := w.1.2.2.2.2.1
  unfold nooP
  rw [← noo_6 (H := H) (D := D) wb hn]
  rw [iv_X7_holdNoon]
  simp (disch := omega) only [kX7_holdNoon_114, kX7_holdNoon_108, kX7_holdNoon_89, kX7_holdNoon_41, kX7_holdNoon_40, kX7_holdNoon_0, gX7_holdNoon_7, gX7_holdNoon_15, gX7_holdNoon_32, gX7_holdNoon_37, gX7_holdNoon_54, gX7_holdNoon_86, gX7_holdNoon_111, xi_iadd, xi_isub, xi_ior, xi_ishl, xi_iconst, xi_bipush, xi_dupI, xi_dupR, xi_dup2, xi_getf, xi_putf, xi_iaload, xi_iastore, xw_s2, xw_v2, xw_v3, xw_goto, xw_icmp, xw_if, xw_iret, xw_min, xl_aload_0, xl_aload_1, xl_bload_0, xl_bload_1, xl_iinc_3, xl_iload_2, xl_iload_3, xl_iload_4, xl_iload_5, xl_iload_6, xl_istore_2, xl_istore_3, xl_istore_4, xl_istore_5, xl_istore_6, dm_ald, dm_ast, dm_at, dm_gf, dm_isRef, dm_pf, xb_7_1, xk_b6, xk_b99, xk_i0, xk_i1, xk_i3, xk_im1, xt_7_1, xv_7_1, xv_7_3, xv_7_7, xv_7_8, reduceIte, Nat.reduceBEq, Bool.false_eq_true, Bool.true_eq_false, if_true, if_false, Bool.not_true, Bool.not_false, Bool.and_true, Bool.and_false, Bool.true_and, Bool.false_and, xwm_some, xwm_none, xwm_ite, kl_I, kl_R, kl_X, kl_N, kl_L, dm_cmp, decide_eq_true_eq, decide_true, decide_false, xfI, xfB0, xfB1, xfBi, ite_self, xf00, xf10, xf11, Bool.or_true, Bool.true_or, Bool.or_false, Bool.false_or, Int.reduceToNat, true_and, and_true, and_self, false_and, and_false, not_false_eq_true, not_true_eq_false, ite_not, xwt_def, xg_cI, xg_cL, xg_cR, xg_cX, xg_cN, List.map_cons, List.map_nil, List.sum_cons, List.sum_nil, Nat.reduceAdd, Nat.reduceMul, Nat.reduceLeDiff, Option.toList, List.cons_append, List.nil_append, List.append_nil, dm_rcvR, dm_rcvX, mkI, mkL, mkR, mkS, mk_I, mk_L, mk_R, xd10, xd2, xd3, xd4, ite_T, ite_F, xz_0, xz_1, xz_2, xz_3, xz_4, xz_5, xz_6, xz_7, xz_8, xz_10, xz_13, xz_19, xz_25, xz_26, xz_31, xz_37, xz_43, xz_44, xz_56, xz_92, xy_0, xy_1, xy_2, xy_3, xy_4, xy_5, xy_6, xy_7, xy_8, xy_10, xy_13, xy_19, xy_25, xy_26, xy_31, xy_37, xy_43, xy_44, xy_56, xy_92, xi_add, xi_in, xi_cl, xi_le, xi_lt, xi_eq, xi_m1, xi_lt0, xi_ge0, xa_0, xle_0, xg_0, xq_0, xa_1, xp_1, xu_1, xl_1, xg_1, xle_1, xge_1, xq_1, xs_1, xa_3, xp_3, xu_3, xl_3, xg_3, xle_3, xge_3, xq_3, xs_3, xa_6, xp_6, xu_6, xl_6, xg_6, xle_6, xge_6, xq_6, xs_6, xa_99, xp_99, xu_99, xl_99, xg_99, xle_99, xge_99, xq_99, xs_99, dm_upe, dm_upi, dm_upp, s0, r3, r4, r5, r6, r7, r8, a1, a2, a3, a4, a5, a6, u0, u1, u2, u3, u4, u5, ts0, rs0, es0]
  refine xw_loop (inv := fun j vs σ => ∃ (x4 x5 x6 : Value) (I2 : Nat → Nat → Int32), vs = [.ref q, .ref h, .int (itB (nooS H D) j (B, 0)).2, .int (nI j), x4, x5, x6] ∧ σ = Mk g I2 L R ∧ CP I2 q br (itB (nooS H D) j (B, 0)).1 ∧ FrC q I I2 ∧ WFB nr n K (itB (nooS H D) j (B, 0)).1) 6 ?_ ?_ 6 0 _ _ (by omega) ⟨_, _, _, I, rfl, rfl, c, FrC.refl q I, wb⟩
  · rintro j vs σ hj ⟨x4, x5, x6, I2, rfl, rfl, c2, hf, wp⟩ ih
    rw [itB_s] at ih
    generalize (itB (nooS H D) j (B, 0)) = p at c2 wp ih ⊢
    have hI := fun Q => c_isInC (S := S) (d := d + 3) (g := g) (L := L) (Q := Q) hR hq c2 hj
    unfold kX7_holdNoon_4
    by_cases hi : p.1 (1 + j) = -1
    · have ec : nooS H D j p = p := by unfold nooS; rw [if_pos hi]
      rw [ec] at ih
      simp (disch := omega) only [kX7_holdNoon_114, kX7_holdNoon_108, kX7_holdNoon_89, kX7_holdNoon_41, kX7_holdNoon_40, kX7_holdNoon_0, gX7_holdNoon_7, gX7_holdNoon_15, gX7_holdNoon_32, gX7_holdNoon_37, gX7_holdNoon_54, gX7_holdNoon_86, gX7_holdNoon_111, xi_iadd, xi_isub, xi_ior, xi_ishl, xi_iconst, xi_bipush, xi_dupI, xi_dupR, xi_dup2, xi_getf, xi_putf, xi_iaload, xi_iastore, xw_s2, xw_v2, xw_v3, xw_goto, xw_icmp, xw_if, xw_iret, xw_min, xl_aload_0, xl_aload_1, xl_bload_0, xl_bload_1, xl_iinc_3, xl_iload_2, xl_iload_3, xl_iload_4, xl_iload_5, xl_iload_6, xl_istore_2, xl_istore_3, xl_istore_4, xl_istore_5, xl_istore_6, dm_ald, dm_ast, dm_at, dm_gf, dm_isRef, dm_pf, xb_7_1, xk_b6, xk_b99, xk_i0, xk_i1, xk_i3, xk_im1, xt_7_1, xv_7_1, xv_7_3, xv_7_7, xv_7_8, reduceIte, Nat.reduceBEq, Bool.false_eq_true, Bool.true_eq_false, if_true, if_false, Bool.not_true, Bool.not_false, Bool.and_true, Bool.and_false, Bool.true_and, Bool.false_and, xwm_some, xwm_none, xwm_ite, kl_I, kl_R, kl_X, kl_N, kl_L, dm_cmp, decide_eq_true_eq, decide_true, decide_false, xfI, xfB0, xfB1, xfBi, ite_self, xf00, xf10, xf11, Bool.or_true, Bool.true_or, Bool.or_false, Bool.false_or, Int.reduceToNat, true_and, and_true, and_self, false_and, and_false, not_false_eq_true, not_true_eq_false, ite_not, xwt_def, xg_cI, xg_cL, xg_cR, xg_cX, xg_cN, List.map_cons, List.map_nil, List.sum_cons, List.sum_nil, Nat.reduceAdd, Nat.reduceMul, Nat.reduceLeDiff, Option.toList, List.cons_append, List.nil_append, List.append_nil, dm_rcvR, dm_rcvX, mkI, mkL, mkR, mkS, mk_I, mk_L, mk_R, xd10, xd2, xd3, xd4, ite_T, ite_F, xz_0, xz_1, xz_2, xz_3, xz_4, xz_5, xz_6, xz_7, xz_8, xz_10, xz_13, xz_19, xz_25, xz_26, xz_31, xz_37, xz_43, xz_44, xz_56, xz_92, xy_0, xy_1, xy_2, xy_3, xy_4, xy_5, xy_6, xy_7, xy_8, xy_10, xy_13, xy_19, xy_25, xy_26, xy_31, xy_37, xy_43, xy_44, xy_56, xy_92, xi_add, xi_in, xi_cl, xi_le, xi_lt, xi_eq, xi_m1, xi_lt0, xi_ge0, xa_0, xle_0, xg_0, xq_0, xa_1, xp_1, xu_1, xl_1, xg_1, xle_1, xge_1, xq_1, xs_1, xa_3, xp_3, xu_3, xl_3, xg_3, xle_3, xge_3, xq_3, xs_3, xa_6, xp_6, xu_6, xl_6, xg_6, xle_6, xge_6, xq_6, xs_6, xa_99, xp_99, xu_99, xl_99, xg_99, xle_99, xge_99, xq_99, xs_99, dm_upe, dm_upi, dm_upp, s0, r3, r4, r5, r6, r7, r8, a1, a2, a3, a4, a5, a6, u0, u1, u2, u3, u4, u5, ts0, rs0, es0, hI, hi]
      exact ih _ _ ⟨_, _, _, _, rfl, rfl, c2, hf, wp⟩
    · have hjn : j < n := ((wp.1 j hj).resolve_left hi).1
      have w3 := wp.noo (H := H) (D := D) hjn hn due9
      have hc2 := hc.C hh hq hf
      simp (disch := omega) only [kX7_holdNoon_114, kX7_holdNoon_108, kX7_holdNoon_89, kX7_holdNoon_41, kX7_holdNoon_40, kX7_holdNoon_0, gX7_holdNoon_7, gX7_holdNoon_15, gX7_holdNoon_32, gX7_holdNoon_37, gX7_holdNoon_54, gX7_holdNoon_86, gX7_holdNoon_111, xi_iadd, xi_isub, xi_ior, xi_ishl, xi_iconst, xi_bipush, xi_dupI, xi_dupR, xi_dup2, xi_getf, xi_putf, xi_iaload, xi_iastore, xw_s2, xw_v2, xw_v3, xw_goto, xw_icmp, xw_if, xw_iret, xw_min, xl_aload_0, xl_aload_1, xl_bload_0, xl_bload_1, xl_iinc_3, xl_iload_2, xl_iload_3, xl_iload_4, xl_iload_5, xl_iload_6, xl_istore_2, xl_istore_3, xl_istore_4, xl_istore_5, xl_istore_6, dm_ald, dm_ast, dm_at, dm_gf, dm_isRef, dm_pf, xb_7_1, xk_b6, xk_b99, xk_i0, xk_i1, xk_i3, xk_im1, xt_7_1, xv_7_1, xv_7_3, xv_7_7, xv_7_8, reduceIte, Nat.reduceBEq, Bool.false_eq_true, Bool.true_eq_false, if_true, if_false, Bool.not_true, Bool.not_false, Bool.and_true, Bool.and_false, Bool.true_and, Bool.false_and, xwm_some, xwm_none, xwm_ite, kl_I, kl_R, kl_X, kl_N, kl_L, dm_cmp, decide_eq_true_eq, decide_true, decide_false, xfI, xfB0, xfB1, xfBi, ite_self, xf00, xf10, xf11, Bool.or_true, Bool.true_or, Bool.or_false, Bool.false_or, Int.reduceToNat, true_and, and_true, and_self, false_and, and_false, not_false_eq_true, not_true_eq_false, ite_not, xwt_def, xg_cI, xg_cL, xg_cR, xg_cX, xg_cN, List.map_cons, List.map_nil, List.sum_cons, List.sum_nil, Nat.reduceAdd, Nat.reduceMul, Nat.reduceLeDiff, Option.toList, List.cons_append, List.nil_append, List.append_nil, dm_rcvR, dm_rcvX, mkI, mkL, mkR, mkS, mk_I, mk_L, mk_R, xd10, xd2, xd3, xd4, ite_T, ite_F, xz_0, xz_1, xz_2, xz_3, xz_4, xz_5, xz_6, xz_7, xz_8, xz_10, xz_13, xz_19, xz_25, xz_26, xz_31, xz_37, xz_43, xz_44, xz_56, xz_92, xy_0, xy_1, xy_2, xy_3, xy_4, xy_5, xy_6, xy_7, xy_8, xy_10, xy_13, xy_19, xy_25, xy_26, xy_31, xy_37, xy_43, xy_44, xy_56, xy_92, xi_add, xi_in, xi_cl, xi_le, xi_lt, xi_eq, xi_m1, xi_lt0, xi_ge0, xa_0, xle_0, xg_0, xq_0, xa_1, xp_1, xu_1, xl_1, xg_1, xle_1, xge_1, xq_1, xs_1, xa_3, xp_3, xu_3, xl_3, xg_3, xle_3, xge_3, xq_3, xs_3, xa_6, xp_6, xu_6, xl_6, xg_6, xle_6, xge_6, xq_6, xs_6, xa_99, xp_99, xu_99, xl_99, xg_99, xle_99, xge_99, xq_99, xs_99, dm_upe, dm_upi, dm_upp, s0, r3, r4, r5, r6, r7, r8, a1, a2, a3, a4, a5, a6, u0, u1, u2, u3, u4, u5, ts0, rs0, es0, hI, hi]
      refine xc_mono (c_dueOf hR hh hq w hc2 wp c2 hj hi) ?_
      rintro _ _ ⟨rfl, I3, rfl, h3⟩
      have c3 := c2.sc hq h3
      have hf3 := hf.sc h3
      have hc3 := hc.C hh hq hf3
      obtain ⟨a, ha, ea⟩ := due9 (H := H) (D := D) (k := j) p.1
      obtain ⟨cc, hcc, ecc⟩ := (wp.2.2.2 j hj).2.2.1
      have q6 := (c3.2.2.2.2.2.2 j hj).trans ecc
      have q1 := c3.2.1 j hj
      have qe := c3.1.2.1
      have hK := fun Q => c_isKindH (S := S) (d := d + 2) (g := g) (L := L) (Q := Q) hR hh w hc3.1 hjn
      have hd := owes_code ha hcc (H (26 + 5 * j) = 3)
      rw [ea]
      simp (disch := omega) only [kX7_holdNoon_114, kX7_holdNoon_108, kX7_holdNoon_89, kX7_holdNoon_40, kX7_holdNoon_0, gX7_holdNoon_7, gX7_holdNoon_15, gX7_holdNoon_32, gX7_holdNoon_37, gX7_holdNoon_54, gX7_holdNoon_86, gX7_holdNoon_111, xi_iadd, xi_isub, xi_ior, xi_ishl, xi_iconst, xi_bipush, xi_dupI, xi_dupR, xi_dup2, xi_getf, xi_putf, xi_iaload, xi_iastore, xw_s2, xw_v2, xw_v3, xw_goto, xw_icmp, xw_if, xw_iret, xw_min, xl_aload_0, xl_aload_1, xl_bload_0, xl_bload_1, xl_iinc_3, xl_iload_2, xl_iload_3, xl_iload_4, xl_iload_5, xl_iload_6, xl_istore_2, xl_istore_3, xl_istore_4, xl_istore_5, xl_istore_6, dm_ald, dm_ast, dm_at, dm_gf, dm_isRef, dm_pf, xb_7_1, xk_b6, xk_b99, xk_i0, xk_i1, xk_i3, xk_im1, xt_7_1, xv_7_1, xv_7_3, xv_7_7, xv_7_8, reduceIte, Nat.reduceBEq, Bool.false_eq_true, Bool.true_eq_false, if_true, if_false, Bool.not_true, Bool.not_false, Bool.and_true, Bool.and_false, Bool.true_and, Bool.false_and, xwm_some, xwm_none, xwm_ite, kl_I, kl_R, kl_X, kl_N, kl_L, dm_cmp, decide_eq_true_eq, decide_true, decide_false, xfI, xfB0, xfB1, xfBi, ite_self, xf00, xf10, xf11, Bool.or_true, Bool.true_or, Bool.or_false, Bool.false_or, Int.reduceToNat, true_and, and_true, and_self, false_and, and_false, not_false_eq_true, not_true_eq_false, ite_not, xwt_def, xg_cI, xg_cL, xg_cR, xg_cX, xg_cN, List.map_cons, List.map_nil, List.sum_cons, List.sum_nil, Nat.reduceAdd, Nat.reduceMul, Nat.reduceLeDiff, Option.toList, List.cons_append, List.nil_append, List.append_nil, dm_rcvR, dm_rcvX, mkI, mkL, mkR, mkS, mk_I, mk_L, mk_R, xd10, xd2, xd3, xd4, ite_T, ite_F, xz_0, xz_1, xz_2, xz_3, xz_4, xz_5, xz_6, xz_7, xz_8, xz_10, xz_13, xz_19, xz_25, xz_26, xz_31, xz_37, xz_43, xz_44, xz_56, xz_92, xy_0, xy_1, xy_2, xy_3, xy_4, xy_5, xy_6, xy_7, xy_8, xy_10, xy_13, xy_19, xy_25, xy_26, xy_31, xy_37, xy_43, xy_44, xy_56, xy_92, xi_add, xi_in, xi_cl, xi_le, xi_lt, xi_eq, xi_m1, xi_lt0, xi_ge0, xa_0, xle_0, xg_0, xq_0, xa_1, xp_1, xu_1, xl_1, xg_1, xle_1, xge_1, xq_1, xs_1, xa_3, xp_3, xu_3, xl_3, xg_3, xle_3, xge_3, xq_3, xs_3, xa_6, xp_6, xu_6, xl_6, xg_6, xle_6, xge_6, xq_6, xs_6, xa_99, xp_99, xu_99, xl_99, xg_99, xle_99, xge_99, xq_99, xs_99, dm_upe, dm_upi, dm_upp, s0, r3, r4, r5, r6, r7, r8, a1, a2, a3, a4, a5, a6, u0, u1, u2, u3, u4, u5, ts0, rs0, es0, hK, xb01, xj_top]
      by_cases hp : nI a ≤ nI cc ∨ (H (26 + 5 * j) = 3 ∧ nI a - nI cc ≤ 99)
      · have ec : nooS H D j p = (upd p.1 (31 + j) (nI cc - paysV (nI a) (nI cc)), p.2 + paysV (nI a) (nI cc)) := by unfold nooS; rw [if_neg hi, ea, ecc, if_pos hp]
        rw [ec] at ih w3
        simp (disch := omega) only [kX7_holdNoon_114, kX7_holdNoon_108, kX7_holdNoon_89, kX7_holdNoon_41, kX7_holdNoon_40, kX7_holdNoon_0, gX7_holdNoon_7, gX7_holdNoon_15, gX7_holdNoon_32, gX7_holdNoon_37, gX7_holdNoon_54, gX7_holdNoon_86, gX7_holdNoon_111, xi_iadd, xi_isub, xi_ior, xi_ishl, xi_iconst, xi_bipush, xi_dupI, xi_dupR, xi_dup2, xi_getf, xi_putf, xi_iaload, xi_iastore, xw_s2, xw_v2, xw_v3, xw_goto, xw_icmp, xw_if, xw_iret, xw_min, xl_aload_0, xl_aload_1, xl_bload_0, xl_bload_1, xl_iinc_3, xl_iload_2, xl_iload_3, xl_iload_4, xl_iload_5, xl_iload_6, xl_istore_2, xl_istore_3, xl_istore_4, xl_istore_5, xl_istore_6, dm_ald, dm_ast, dm_at, dm_gf, dm_isRef, dm_pf, xb_7_1, xk_b6, xk_b99, xk_i0, xk_i1, xk_i3, xk_im1, xt_7_1, xv_7_1, xv_7_3, xv_7_7, xv_7_8, reduceIte, Nat.reduceBEq, Bool.false_eq_true, Bool.true_eq_false, if_true, if_false, Bool.not_true, Bool.not_false, Bool.and_true, Bool.and_false, Bool.true_and, Bool.false_and, xwm_some, xwm_none, xwm_ite, kl_I, kl_R, kl_X, kl_N, kl_L, dm_cmp, decide_eq_true_eq, decide_true, decide_false, xfI, xfB0, xfB1, xfBi, ite_self, xf00, xf10, xf11, Bool.or_true, Bool.true_or, Bool.or_false, Bool.false_or, Int.reduceToNat, true_and, and_true, and_self, false_and, and_false, not_false_eq_true, not_true_eq_false, ite_not, xwt_def, xg_cI, xg_cL, xg_cR, xg_cX, xg_cN, List.map_cons, List.map_nil, List.sum_cons, List.sum_nil, Nat.reduceAdd, Nat.reduceMul, Nat.reduceLeDiff, Option.toList, List.cons_append, List.nil_append, List.append_nil, dm_rcvR, dm_rcvX, mkI, mkL, mkR, mkS, mk_I, mk_L, mk_R, xd10, xd2, xd3, xd4, ite_T, ite_F, xz_0, xz_1, xz_2, xz_3, xz_4, xz_5, xz_6, xz_7, xz_8, xz_10, xz_13, xz_19, xz_25, xz_26, xz_31, xz_37, xz_43, xz_44, xz_56, xz_92, xy_0, xy_1, xy_2, xy_3, xy_4, xy_5, xy_6, xy_7, xy_8, xy_10, xy_13, xy_19, xy_25, xy_26, xy_31, xy_37, xy_43, xy_44, xy_56, xy_92, xi_add, xi_in, xi_cl, xi_m1, xi_lt0, xi_ge0, xa_0, xle_0, xg_0, xq_0, xa_1, xp_1, xu_1, xl_1, xg_1, xle_1, xge_1, xq_1, xs_1, xa_3, xp_3, xu_3, xl_3, xg_3, xle_3, xge_3, xq_3, xs_3, xa_6, xp_6, xu_6, xl_6, xg_6, xle_6, xge_6, xq_6, xs_6, xa_99, xp_99, xu_99, xl_99, xg_99, xle_99, xge_99, xq_99, xs_99, dm_upe, dm_upi, dm_upp, s0, r3, r4, r5, r6, r7, r8, a1, a2, a3, a4, a5, a6, u0, u1, u2, u3, u4, u5, ts0, rs0, es0, q6, hd, hp, pays_min]
        exact ih _ _ ⟨_, _, _, _, rfl, rfl, c3.up6 hj, hf3.up (by decide), w3⟩
      · have ec : nooS H D j p = (upd (upd p.1 (1 + j) (-1)) (37 + j) 1, p.2) := by unfold nooS; rw [if_neg hi, ea, ecc, if_neg hp]
        rw [ec] at ih w3
        simp (disch := omega) only [kX7_holdNoon_114, kX7_holdNoon_108, kX7_holdNoon_89, kX7_holdNoon_41, kX7_holdNoon_40, kX7_holdNoon_0, gX7_holdNoon_7, gX7_holdNoon_15, gX7_holdNoon_32, gX7_holdNoon_37, gX7_holdNoon_54, gX7_holdNoon_86, gX7_holdNoon_111, xi_iadd, xi_isub, xi_ior, xi_ishl, xi_iconst, xi_bipush, xi_dupI, xi_dupR, xi_dup2, xi_getf, xi_putf, xi_iaload, xi_iastore, xw_s2, xw_v2, xw_v3, xw_goto, xw_icmp, xw_if, xw_iret, xw_min, xl_aload_0, xl_aload_1, xl_bload_0, xl_bload_1, xl_iinc_3, xl_iload_2, xl_iload_3, xl_iload_4, xl_iload_5, xl_iload_6, xl_istore_2, xl_istore_3, xl_istore_4, xl_istore_5, xl_istore_6, dm_ald, dm_ast, dm_at, dm_gf, dm_isRef, dm_pf, xb_7_1, xk_b6, xk_b99, xk_i0, xk_i1, xk_i3, xk_im1, xt_7_1, xv_7_1, xv_7_3, xv_7_7, xv_7_8, reduceIte, Nat.reduceBEq, Bool.false_eq_true, Bool.true_eq_false, if_true, if_false, Bool.not_true, Bool.not_false, Bool.and_true, Bool.and_false, Bool.true_and, Bool.false_and, xwm_some, xwm_none, xwm_ite, kl_I, kl_R, kl_X, kl_N, kl_L, dm_cmp, decide_eq_true_eq, decide_true, decide_false, xfI, xfB0, xfB1, xfBi, ite_self, xf00, xf10, xf11, Bool.or_true, Bool.true_or, Bool.or_false, Bool.false_or, Int.reduceToNat, true_and, and_true, and_self, false_and, and_false, not_false_eq_true, not_true_eq_false, ite_not, xwt_def, xg_cI, xg_cL, xg_cR, xg_cX, xg_cN, List.map_cons, List.map_nil, List.sum_cons, List.sum_nil, Nat.reduceAdd, Nat.reduceMul, Nat.reduceLeDiff, Option.toList, List.cons_append, List.nil_append, List.append_nil, dm_rcvR, dm_rcvX, mkI, mkL, mkR, mkS, mk_I, mk_L, mk_R, xd10, xd2, xd3, xd4, ite_T, ite_F, xz_0, xz_1, xz_2, xz_3, xz_4, xz_5, xz_6, xz_7, xz_8, xz_10, xz_13, xz_19, xz_25, xz_26, xz_31, xz_37, xz_43, xz_44, xz_56, xz_92, xy_0, xy_1, xy_2, xy_3, xy_4, xy_5, xy_6, xy_7, xy_8, xy_10, xy_13, xy_19, xy_25, xy_26, xy_31, xy_37, xy_43, xy_44, xy_56, xy_92, xi_add, xi_in, xi_cl, xi_m1, xi_lt0, xi_ge0, xa_0, xle_0, xg_0, xq_0, xa_1, xp_1, xu_1, xl_1, xg_1, xle_1, xge_1, xq_1, xs_1, xa_3, xp_3, xu_3, xl_3, xg_3, xle_3, xge_3, xq_3, xs_3, xa_6, xp_6, xu_6, xl_6, xg_6, xle_6, xge_6, xq_6, xs_6, xa_99, xp_99, xu_99, xl_99, xg_99, xle_99, xge_99, xq_99, xs_99, dm_upe, dm_upi, dm_upp, s0, r3, r4, r5, r6, r7, r8, a1, a2, a3, a4, a5, a6, u0, u1, u2, u3, u4, u5, ts0, rs0, es0, q6, hd, hp, qe]
        have c4 := (c3.up1 (v := -1) hj)
        have c5 := c4.upG hj
        rw [goB_upd (by omega)] at c5
        exact ih _ _ ⟨_, _, _, _, rfl, rfl, c5, (hf3.up (by decide)).up0, w3⟩
  · rintro vs σ ⟨x4, x5, x6, I2, rfl, rfl, c2, hf, wp⟩
    unfold kX7_holdNoon_4
    simp (disch := omega) only [kX7_holdNoon_114, kX7_holdNoon_108, kX7_holdNoon_89, kX7_holdNoon_41, kX7_holdNoon_40, kX7_holdNoon_0, gX7_holdNoon_7, gX7_holdNoon_15, gX7_holdNoon_32, gX7_holdNoon_37, gX7_holdNoon_54, gX7_holdNoon_86, gX7_holdNoon_111, xi_iadd, xi_isub, xi_ior, xi_ishl, xi_iconst, xi_bipush, xi_dupI, xi_dupR, xi_dup2, xi_getf, xi_putf, xi_iaload, xi_iastore, xw_s2, xw_v2, xw_v3, xw_goto, xw_icmp, xw_if, xw_iret, xw_min, xl_aload_0, xl_aload_1, xl_bload_0, xl_bload_1, xl_iinc_3, xl_iload_2, xl_iload_3, xl_iload_4, xl_iload_5, xl_iload_6, xl_istore_2, xl_istore_3, xl_istore_4, xl_istore_5, xl_istore_6, dm_ald, dm_ast, dm_at, dm_gf, dm_isRef, dm_pf, xb_7_1, xk_b6, xk_b99, xk_i0, xk_i1, xk_i3, xk_im1, xt_7_1, xv_7_1, xv_7_3, xv_7_7, xv_7_8, reduceIte, Nat.reduceBEq, Bool.false_eq_true, Bool.true_eq_false, if_true, if_false, Bool.not_true, Bool.not_false, Bool.and_true, Bool.and_false, Bool.true_and, Bool.false_and, xwm_some, xwm_none, xwm_ite, kl_I, kl_R, kl_X, kl_N, kl_L, dm_cmp, decide_eq_true_eq, decide_true, decide_false, xfI, xfB0, xfB1, xfBi, ite_self, xf00, xf10, xf11, Bool.or_true, Bool.true_or, Bool.or_false, Bool.false_or, Int.reduceToNat, true_and, and_true, and_self, false_and, and_false, not_false_eq_true, not_true_eq_false, ite_not, xwt_def, xg_cI, xg_cL, xg_cR, xg_cX, xg_cN, List.map_cons, List.map_nil, List.sum_cons, List.sum_nil, Nat.reduceAdd, Nat.reduceMul, Nat.reduceLeDiff, Option.toList, List.cons_append, List.nil_append, List.append_nil, dm_rcvR, dm_rcvX, mkI, mkL, mkR, mkS, mk_I, mk_L, mk_R, xd10, xd2, xd3, xd4, ite_T, ite_F, xz_0, xz_1, xz_2, xz_3, xz_4, xz_5, xz_6, xz_7, xz_8, xz_10, xz_13, xz_19, xz_25, xz_26, xz_31, xz_37, xz_43, xz_44, xz_56, xz_92, xy_0, xy_1, xy_2, xy_3, xy_4, xy_5, xy_6, xy_7, xy_8, xy_10, xy_13, xy_19, xy_25, xy_26, xy_31, xy_37, xy_43, xy_44, xy_56, xy_92, xi_add, xi_in, xi_cl, xi_le, xi_lt, xi_eq, xi_m1, xi_lt0, xi_ge0, xa_0, xle_0, xg_0, xq_0, xa_1, xp_1, xu_1, xl_1, xg_1, xle_1, xge_1, xq_1, xs_1, xa_3, xp_3, xu_3, xl_3, xg_3, xle_3, xge_3, xq_3, xs_3, xa_6, xp_6, xu_6, xl_6, xg_6, xle_6, xge_6, xq_6, xs_6, xa_99, xp_99, xu_99, xl_99, xg_99, xle_99, xge_99, xq_99, xs_99, dm_upe, dm_upi, dm_upp, s0, r3, r4, r5, r6, r7, r8, a1, a2, a3, a4, a5, a6, u0, u1, u2, u3, u4, u5, ts0, rs0, es0, c_fill a5 (by decide)]
    exact ⟨rfl, _, rfl, c2.clr wp hn, hf.row (by decide)⟩
