/-! Months are read: what both find by a name; the deed. -/
theorem nm_same {wd : Nat → List Nat} {kd : Nat → Nat} {g f : Nat → Int64} {nm cnt fr : Nat} (hc : cnt ≤ 6) (hA : ∀ k, k < nm → okW (wd k) ∧ g k = e37 (wd k)) (hB : ∀ t, t < cnt → ∃ k, k < nm ∧ kd k = fr + t) (hC : ∀ k, k < nm → fr ≤ kd k → kd k ≤ fr + 5 → kd k - fr < cnt ∧ f (kd k - fr) = e32 (wd k)) (hD : ∀ k j, k < nm → j < nm → wd k = wd j → k = j) {w : List Nat} (hw : okW w) : kdF fr (kdO g kd (e37 w) nm) = fdL f (e32 w) 0 cnt := by
  -- one of the table that has the name is the one
  have who : ∀ t, t < cnt → f t = e32 w → ∃ k, k < nm ∧ kd k = fr + t ∧ wd k = w := fun t ht e => by
    obtain ⟨k, h1, h2⟩ := hB t ht
    have h3 := (hC k h1 (by omega) (by omega)).2
    rw [h2, Nat.add_sub_cancel_left, e] at h3
    exact ⟨k, h1, h2, (e32_inj hw (hA k h1).1 h3).symm⟩
  unfold kdO
  cases hf : fdL g (e37 w) 0 nm with
  | none =>
    cases ho : fdL f (e32 w) 0 cnt with
    | none => rfl
    | some t =>
      obtain ⟨-, h1, h2⟩ := fdL_some cnt 0 t ho
      obtain ⟨k, k1, k2, k3⟩ := who t (by omega) h2
      refine absurd ?_ (fdL_none nm 0 hf k (Nat.zero_le _) (by omega))
      rw [(hA k k1).2, k3]
  | some i =>
    obtain ⟨-, i1, i2⟩ := fdL_some nm 0 i hf
    have i1 : i < nm := by omega
    rw [(hA i i1).2] at i2
    have i3 : wd i = w := e37_inj (hA i i1).1 hw i2
    show kdF fr (some (kd i)) = _
    unfold kdF
    dsimp only
    by_cases z : fr ≤ kd i ∧ kd i ≤ fr + 5
    · rw [if_pos z]
      obtain ⟨c1, c2⟩ := hC i i1 z.1 z.2
      rw [i3] at c2
      cases ho : fdL f (e32 w) 0 cnt with
      | none => exact absurd c2 (fdL_none cnt 0 ho _ (Nat.zero_le _) (by omega))
      | some t =>
        obtain ⟨-, h1, h2⟩ := fdL_some cnt 0 t ho
        obtain ⟨k, k1, k2, k3⟩ := who t (by omega) h2
        have := hD k i k1 i1 (k3.trans i3.symm)
        subst this
        congr 1
        omega
    · rw [if_neg z]
      cases ho : fdL f (e32 w) 0 cnt with
      | none => rfl
      | some t =>
        obtain ⟨-, h1, h2⟩ := fdL_some cnt 0 t ho
        obtain ⟨k, k1, k2, k3⟩ := who t (by omega) h2
        have := hD k i k1 i1 (k3.trans i3.symm)
        subst this
        omega
theorem nm_told {I : Nat → Nat → Int32} {L : Nat → Nat → Int64} {h pn pk nm nr n ne : Nat} (hr : nr ≤ 6) (hn : n ≤ 6) (s : NMs I L h pn pk nm nr n ne) : ∃ kd : Nat → Nat, (∀ i, i < nm → I pk i = nI (kd i) ∧ kd i ≤ 40) ∧ ∀ w, okW w → kdF 0 (kdO (L pn) kd (e37 w) nm) = fdL (L (h + 2)) (e32 w) 0 nr ∧ kdF 20 (kdO (L pn) kd (e37 w) nm) = fdL (L (h + 8)) (e32 w) 0 n := by
  obtain ⟨wd, kd, a1, a2, a3, a4, a5, a6⟩ := s
  refine ⟨kd, fun i hi => ⟨(a1 i hi).2.2, ?_⟩, fun w hw => ⟨?_, ?_⟩⟩
  · rcases a2 i hi with ⟨x, -⟩ | ⟨x, y, -⟩ | ⟨x, -⟩ <;> omega
  · refine nm_same hr (fun k hk => ⟨(a1 k hk).1, (a1 k hk).2.1⟩) (fun t ht => by obtain ⟨k, k1, k2⟩ := a3 t ht; exact ⟨k, k1, by omega⟩) (fun k hk h1 h2 => ?_) a6 hw
    rcases a2 k hk with ⟨x, y⟩ | ⟨x, y, -⟩ | ⟨x, -⟩
    · exact ⟨by omega, by rw [Nat.sub_zero]; exact y⟩
    · omega
    · omega
  · refine nm_same hn (fun k hk => ⟨(a1 k hk).1, (a1 k hk).2.1⟩) (fun t ht => by obtain ⟨k, k1, k2⟩ := a4 t ht; exact ⟨k, k1, by omega⟩) (fun k hk h1 h2 => ?_) a6 hw
    rcases a2 k hk with ⟨x, -⟩ | ⟨x, y, z⟩ | ⟨x, -⟩
    · omega
    · exact ⟨by omega, z⟩
    · omega
theorem aWH_of {cs : Nat → Nat} {sz fr m i : Nat} {c : Cu} (h : aW cs sz (fr + i) c = true) (hi : i < m) : aWH cs sz fr m c = some i := by
  obtain ⟨h1, h2, h3⟩ := of_decide_eq_true h
  have h3 : wIx (aTw cs sz c) = fr + i := h3
  unfold aWH
  rw [if_pos ⟨h1, h2, by omega, by omega⟩, h3]
  congr 1
  omega
theorem aWH_no {cs : Nat → Nat} {sz fr m : Nat} {c : Cu} (h : ∀ i, i < m → ¬ aW cs sz (fr + i) c = true) : aWH cs sz fr m c = none := by
  unfold aWH
  refine if_neg (fun z => ?_)
  obtain ⟨z1, z2, z3, z4⟩ := z
  refine h (wIx (aTw cs sz c) - fr) (by omega) (decide_eq_true ⟨z1, z2, ?_⟩)
  show wIx (aTw cs sz c) = _
  omega
theorem aNS_0 {cs : Nat → Nat} {sz ch : Nat} {c : Cu} (h : (aNS cs sz ch c).2 = 0) : c.2 = 0 := by
  unfold aNS at h
  split at h
  · rw [aAd_0] at h; exact h
  · exact absurd h (aFl_ne (by decide))
theorem aNW_0 {cs : Nat → Nat} {sz j : Nat} {c : Cu} (h : (aNW cs sz j c).2 = 0) : c.2 = 0 := by
  unfold aNW at h
  split at h
  · rw [aAd_0] at h; exact h
  · exact absurd h (aFl_ne (by decide))
theorem aNN_0 {cs : Nat → Nat} {sz lo hi : Nat} {c : Cu} (h : (aNN cs sz lo hi c).2 = 0) : c.2 = 0 := by
  unfold aNN at h
  split at h
  · split at h
    · rw [aAd_0] at h; exact h
    · exact absurd h (aFl_ne (by decide))
  · exact absurd h (aFl_ne (by decide))
theorem aSee_0 {cs : Nat → Nat} {sz : Nat} {o : Option Nat} {c : Cu} (h : (aSee cs sz o c).2 = 0) : c.2 = 0 ∧ aM cs sz c = true ∧ ∃ r, o = some r := by
  unfold aSee at h
  split at h
  · rename_i z
    cases o with
    | none => exact absurd h (aFl_ne (by decide))
    | some r => exact ⟨h, z, r, rfl⟩
  · exact absurd h (aFl_ne (by decide))
theorem c_deedOn {S : dm_Sc} {d : Nat} {g : Nat × Nat} {I : Nat → Nat → Int32} {L : Nat → Nat → Int64} {R : Nat → Nat → Value} {Q : Option Value → dm_St → Prop} {cs : Nat → Nat} {sz : Nat} {c : Cu} (cx : CX cs sz c I L R) : xc S (d + 2) 46 [.ref 1] (Mk g I L R) Q ↔ Q (some (.int (oI (aWH cs sz 19 6 c)))) (Mk g I L R) := by
  refine xc_iff ?_
  have hR := cx.2.1
  have w0 := fun Q => c_isWord (S := S) (d := d) (g := g) (Q := Q) cx (j := 19) (by decide)
  have w1 := fun Q => c_isWord (S := S) (d := d) (g := g) (Q := Q) cx (j := 20) (by decide)
  have w2 := fun Q => c_isWord (S := S) (d := d) (g := g) (Q := Q) cx (j := 21) (by decide)
  have w3 := fun Q => c_isWord (S := S) (d := d) (g := g) (Q := Q) cx (j := 22) (by decide)
  have w4 := fun Q => c_isWord (S := S) (d := d) (g := g) (Q := Q) cx (j := 23) (by decide)
  have w5 := fun Q => c_isWord (S := S) (d := d) (g := g) (Q := Q) cx (j := 24) (by decide)
  rw [iv_X4_deedOn]
  by_cases z0 : aW cs sz 19 c = true
  · rw [if_pos z0] at w0
    rw [aWH_of (fr := 19) (i := 0) z0 (by decide), oI_s]
    simp (disch := omega) only [kX4_deedOn_0, gX4_deedOn_7, gX4_deedOn_19, gX4_deedOn_31, gX4_deedOn_43, gX4_deedOn_55, gX4_deedOn_67, gX4_deedOn_71, xi_iconst, xi_gets, xw_v2, xw_goto, xw_if, xw_iret, xl_aload_0, xl_bload_0, xk_i0, xk_i1, xk_i2, xk_i3, xk_i4, xk_i5, xk_im1, reduceIte, Nat.reduceBEq, Bool.false_eq_true, Bool.true_eq_false, if_true, if_false, Bool.not_true, Bool.not_false, Bool.and_true, Bool.and_false, Bool.true_and, Bool.false_and, xwm_some, xwm_none, xwm_ite, kl_I, kl_R, kl_X, kl_N, kl_L, dm_cmp, decide_eq_true_eq, decide_true, decide_false, xfI, xfB0, xfB1, xfBi, ite_self, xf00, xf10, xf11, Bool.or_true, Bool.true_or, Bool.or_false, Bool.false_or, Int.reduceToNat, true_and, and_true, and_self, false_and, and_false, not_false_eq_true, not_true_eq_false, ite_not, xwt_def, xg_cI, xg_cL, xg_cR, xg_cX, xg_cN, List.map_cons, List.map_nil, List.sum_cons, List.sum_nil, Nat.reduceAdd, Nat.reduceMul, Nat.reduceLeDiff, Option.toList, List.cons_append, List.nil_append, List.append_nil, dm_rcvR, dm_rcvX, mkI, mkL, mkR, mkS, mk_I, mk_L, mk_R, xd10, xd2, xd3, xd4, ite_T, ite_F, xz_0, xz_1, xz_2, xz_3, xz_4, xz_5, xz_6, xz_7, xz_8, xz_10, xz_13, xz_19, xz_25, xz_26, xz_31, xz_37, xz_43, xz_44, xz_56, xz_92, xy_0, xy_1, xy_2, xy_3, xy_4, xy_5, xy_6, xy_7, xy_8, xy_10, xy_13, xy_19, xy_25, xy_26, xy_31, xy_37, xy_43, xy_44, xy_56, xy_92, xi_add, xi_in, xi_cl, xi_le, xi_lt, xi_eq, xi_m1, xi_lt0, xi_ge0, xa_0, xle_0, xg_0, xq_0, xa_1, xp_1, xu_1, xl_1, xg_1, xle_1, xge_1, xq_1, xs_1, xa_2, xp_2, xu_2, xl_2, xg_2, xle_2, xge_2, xq_2, xs_2, xa_3, xp_3, xu_3, xl_3, xg_3, xle_3, xge_3, xq_3, xs_3, xa_4, xp_4, xu_4, xl_4, xg_4, xle_4, xge_4, xq_4, xs_4, xa_5, xp_5, xu_5, xl_5, xg_5, xle_5, xge_5, xq_5, xs_5, dm_upe, dm_upi, dm_upp, ms_1, ms_2, mr_1_0 hR, show ((19 : Int) = 101) = False by decide, show ((20 : Int) = 101) = False by decide, show ((21 : Int) = 101) = False by decide, show ((22 : Int) = 101) = False by decide, show ((23 : Int) = 101) = False by decide, show ((24 : Int) = 101) = False by decide, w0]
    try rfl
  rw [if_neg z0] at w0
  by_cases z1 : aW cs sz 20 c = true
  · rw [if_pos z1] at w1
    rw [aWH_of (fr := 19) (i := 1) z1 (by decide), oI_s]
    simp (disch := omega) only [kX4_deedOn_12, kX4_deedOn_0, gX4_deedOn_7, gX4_deedOn_19, gX4_deedOn_31, gX4_deedOn_43, gX4_deedOn_55, gX4_deedOn_67, gX4_deedOn_71, xi_iconst, xi_gets, xw_v2, xw_goto, xw_if, xw_iret, xl_aload_0, xl_bload_0, xk_i0, xk_i1, xk_i2, xk_i3, xk_i4, xk_i5, xk_im1, reduceIte, Nat.reduceBEq, Bool.false_eq_true, Bool.true_eq_false, if_true, if_false, Bool.not_true, Bool.not_false, Bool.and_true, Bool.and_false, Bool.true_and, Bool.false_and, xwm_some, xwm_none, xwm_ite, kl_I, kl_R, kl_X, kl_N, kl_L, dm_cmp, decide_eq_true_eq, decide_true, decide_false, xfI, xfB0, xfB1, xfBi, ite_self, xf00, xf10, xf11, Bool.or_true, Bool.true_or, Bool.or_false, Bool.false_or, Int.reduceToNat, true_and, and_true, and_self, false_and, and_false, not_false_eq_true, not_true_eq_false, ite_not, xwt_def, xg_cI, xg_cL, xg_cR, xg_cX, xg_cN, List.map_cons, List.map_nil, List.sum_cons, List.sum_nil, Nat.reduceAdd, Nat.reduceMul, Nat.reduceLeDiff, Option.toList, List.cons_append, List.nil_append, List.append_nil, dm_rcvR, dm_rcvX, mkI, mkL, mkR, mkS, mk_I, mk_L, mk_R, xd10, xd2, xd3, xd4, ite_T, ite_F, xz_0, xz_1, xz_2, xz_3, xz_4, xz_5, xz_6, xz_7, xz_8, xz_10, xz_13, xz_19, xz_25, xz_26, xz_31, xz_37, xz_43, xz_44, xz_56, xz_92, xy_0, xy_1, xy_2, xy_3, xy_4, xy_5, xy_6, xy_7, xy_8, xy_10, xy_13, xy_19, xy_25, xy_26, xy_31, xy_37, xy_43, xy_44, xy_56, xy_92, xi_add, xi_in, xi_cl, xi_le, xi_lt, xi_eq, xi_m1, xi_lt0, xi_ge0, xa_0, xle_0, xg_0, xq_0, xa_1, xp_1, xu_1, xl_1, xg_1, xle_1, xge_1, xq_1, xs_1, xa_2, xp_2, xu_2, xl_2, xg_2, xle_2, xge_2, xq_2, xs_2, xa_3, xp_3, xu_3, xl_3, xg_3, xle_3, xge_3, xq_3, xs_3, xa_4, xp_4, xu_4, xl_4, xg_4, xle_4, xge_4, xq_4, xs_4, xa_5, xp_5, xu_5, xl_5, xg_5, xle_5, xge_5, xq_5, xs_5, dm_upe, dm_upi, dm_upp, ms_1, ms_2, mr_1_0 hR, show ((19 : Int) = 101) = False by decide, show ((20 : Int) = 101) = False by decide, show ((21 : Int) = 101) = False by decide, show ((22 : Int) = 101) = False by decide, show ((23 : Int) = 101) = False by decide, show ((24 : Int) = 101) = False by decide, w0, w1]
    try rfl
  rw [if_neg z1] at w1
  by_cases z2 : aW cs sz 21 c = true
  · rw [if_pos z2] at w2
    rw [aWH_of (fr := 19) (i := 2) z2 (by decide), oI_s]
    simp (disch := omega) only [kX4_deedOn_24, kX4_deedOn_12, kX4_deedOn_0, gX4_deedOn_7, gX4_deedOn_19, gX4_deedOn_31, gX4_deedOn_43, gX4_deedOn_55, gX4_deedOn_67, gX4_deedOn_71, xi_iconst, xi_gets, xw_v2, xw_goto, xw_if, xw_iret, xl_aload_0, xl_bload_0, xk_i0, xk_i1, xk_i2, xk_i3, xk_i4, xk_i5, xk_im1, reduceIte, Nat.reduceBEq, Bool.false_eq_true, Bool.true_eq_false, if_true, if_false, Bool.not_true, Bool.not_false, Bool.and_true, Bool.and_false, Bool.true_and, Bool.false_and, xwm_some, xwm_none, xwm_ite, kl_I, kl_R, kl_X, kl_N, kl_L, dm_cmp, decide_eq_true_eq, decide_true, decide_false, xfI, xfB0, xfB1, xfBi, ite_self, xf00, xf10, xf11, Bool.or_true, Bool.true_or, Bool.or_false, Bool.false_or, Int.reduceToNat, true_and, and_true, and_self, false_and, and_false, not_false_eq_true, not_true_eq_false, ite_not, xwt_def, xg_cI, xg_cL, xg_cR, xg_cX, xg_cN, List.map_cons, List.map_nil, List.sum_cons, List.sum_nil, Nat.reduceAdd, Nat.reduceMul, Nat.reduceLeDiff, Option.toList, List.cons_append, List.nil_append, List.append_nil, dm_rcvR, dm_rcvX, mkI, mkL, mkR, mkS, mk_I, mk_L, mk_R, xd10, xd2, xd3, xd4, ite_T, ite_F, xz_0, xz_1, xz_2, xz_3, xz_4, xz_5, xz_6, xz_7, xz_8, xz_10, xz_13, xz_19, xz_25, xz_26, xz_31, xz_37, xz_43, xz_44, xz_56, xz_92, xy_0, xy_1, xy_2, xy_3, xy_4, xy_5, xy_6, xy_7, xy_8, xy_10, xy_13, xy_19, xy_25, xy_26, xy_31, xy_37, xy_43, xy_44, xy_56, xy_92, xi_add, xi_in, xi_cl, xi_le, xi_lt, xi_eq, xi_m1, xi_lt0, xi_ge0, xa_0, xle_0, xg_0, xq_0, xa_1, xp_1, xu_1, xl_1, xg_1, xle_1, xge_1, xq_1, xs_1, xa_2, xp_2, xu_2, xl_2, xg_2, xle_2, xge_2, xq_2, xs_2, xa_3, xp_3, xu_3, xl_3, xg_3, xle_3, xge_3, xq_3, xs_3, xa_4, xp_4, xu_4, xl_4, xg_4, xle_4, xge_4, xq_4, xs_4, xa_5, xp_5, xu_5, xl_5, xg_5, xle_5, xge_5, xq_5, xs_5, dm_upe, dm_upi, dm_upp, ms_1, ms_2, mr_1_0 hR, show ((19 : Int) = 101) = False by decide, show ((20 : Int) = 101) = False by decide, show ((21 : Int) = 101) = False by decide, show ((22 : Int) = 101) = False by decide, show ((23 : Int) = 101) = False by decide, show ((24 : Int) = 101) = False by decide, w0, w1, w2]
    try rfl
  rw [if_neg z2] at w2
  by_cases z3 : aW cs sz 22 c = true
  · rw [if_pos z3] at w3
    rw [aWH_of (fr := 19) (i := 3) z3 (by decide), oI_s]
    simp (disch := omega) only [kX4_deedOn_36, kX4_deedOn_24, kX4_deedOn_12, kX4_deedOn_0, gX4_deedOn_7, gX4_deedOn_19, gX4_deedOn_31, gX4_deedOn_43, gX4_deedOn_55, gX4_deedOn_67, gX4_deedOn_71, xi_iconst, xi_gets, xw_v2, xw_goto, xw_if, xw_iret, xl_aload_0, xl_bload_0, xk_i0, xk_i1, xk_i2, xk_i3, xk_i4, xk_i5, xk_im1, reduceIte, Nat.reduceBEq, Bool.false_eq_true, Bool.true_eq_false, if_true, if_false, Bool.not_true, Bool.not_false, Bool.and_true, Bool.and_false, Bool.true_and, Bool.false_and, xwm_some, xwm_none, xwm_ite, kl_I, kl_R, kl_X, kl_N, kl_L, dm_cmp, decide_eq_true_eq, decide_true, decide_false, xfI, xfB0, xfB1, xfBi, ite_self, xf00, xf10, xf11, Bool.or_true, Bool.true_or, Bool.or_false, Bool.false_or, Int.reduceToNat, true_and, and_true, and_self, false_and, and_false, not_false_eq_true, not_true_eq_false, ite_not, xwt_def, xg_cI, xg_cL, xg_cR, xg_cX, xg_cN, List.map_cons, List.map_nil, List.sum_cons, List.sum_nil, Nat.reduceAdd, Nat.reduceMul, Nat.reduceLeDiff, Option.toList, List.cons_append, List.nil_append, List.append_nil, dm_rcvR, dm_rcvX, mkI, mkL, mkR, mkS, mk_I, mk_L, mk_R, xd10, xd2, xd3, xd4, ite_T, ite_F, xz_0, xz_1, xz_2, xz_3, xz_4, xz_5, xz_6, xz_7, xz_8, xz_10, xz_13, xz_19, xz_25, xz_26, xz_31, xz_37, xz_43, xz_44, xz_56, xz_92, xy_0, xy_1, xy_2, xy_3, xy_4, xy_5, xy_6, xy_7, xy_8, xy_10, xy_13, xy_19, xy_25, xy_26, xy_31, xy_37, xy_43, xy_44, xy_56, xy_92, xi_add, xi_in, xi_cl, xi_le, xi_lt, xi_eq, xi_m1, xi_lt0, xi_ge0, xa_0, xle_0, xg_0, xq_0, xa_1, xp_1, xu_1, xl_1, xg_1, xle_1, xge_1, xq_1, xs_1, xa_2, xp_2, xu_2, xl_2, xg_2, xle_2, xge_2, xq_2, xs_2, xa_3, xp_3, xu_3, xl_3, xg_3, xle_3, xge_3, xq_3, xs_3, xa_4, xp_4, xu_4, xl_4, xg_4, xle_4, xge_4, xq_4, xs_4, xa_5, xp_5, xu_5, xl_5, xg_5, xle_5, xge_5, xq_5, xs_5, dm_upe, dm_upi, dm_upp, ms_1, ms_2, mr_1_0 hR, show ((19 : Int) = 101) = False by decide, show ((20 : Int) = 101) = False by decide, show ((21 : Int) = 101) = False by decide, show ((22 : Int) = 101) = False by decide, show ((23 : Int) = 101) = False by decide, show ((24 : Int) = 101) = False by decide, w0, w1, w2, w3]
    try rfl
  rw [if_neg z3] at w3
  by_cases z4 : aW cs sz 23 c = true
  · rw [if_pos z4] at w4
    rw [aWH_of (fr := 19) (i := 4) z4 (by decide), oI_s]
    simp (disch := omega) only [kX4_deedOn_48, kX4_deedOn_36, kX4_deedOn_24, kX4_deedOn_12, kX4_deedOn_0, gX4_deedOn_7, gX4_deedOn_19, gX4_deedOn_31, gX4_deedOn_43, gX4_deedOn_55, gX4_deedOn_67, gX4_deedOn_71, xi_iconst, xi_gets, xw_v2, xw_goto, xw_if, xw_iret, xl_aload_0, xl_bload_0, xk_i0, xk_i1, xk_i2, xk_i3, xk_i4, xk_i5, xk_im1, reduceIte, Nat.reduceBEq, Bool.false_eq_true, Bool.true_eq_false, if_true, if_false, Bool.not_true, Bool.not_false, Bool.and_true, Bool.and_false, Bool.true_and, Bool.false_and, xwm_some, xwm_none, xwm_ite, kl_I, kl_R, kl_X, kl_N, kl_L, dm_cmp, decide_eq_true_eq, decide_true, decide_false, xfI, xfB0, xfB1, xfBi, ite_self, xf00, xf10, xf11, Bool.or_true, Bool.true_or, Bool.or_false, Bool.false_or, Int.reduceToNat, true_and, and_true, and_self, false_and, and_false, not_false_eq_true, not_true_eq_false, ite_not, xwt_def, xg_cI, xg_cL, xg_cR, xg_cX, xg_cN, List.map_cons, List.map_nil, List.sum_cons, List.sum_nil, Nat.reduceAdd, Nat.reduceMul, Nat.reduceLeDiff, Option.toList, List.cons_append, List.nil_append, List.append_nil, dm_rcvR, dm_rcvX, mkI, mkL, mkR, mkS, mk_I, mk_L, mk_R, xd10, xd2, xd3, xd4, ite_T, ite_F, xz_0, xz_1, xz_2, xz_3, xz_4, xz_5, xz_6, xz_7, xz_8, xz_10, xz_13, xz_19, xz_25, xz_26, xz_31, xz_37, xz_43, xz_44, xz_56, xz_92, xy_0, xy_1, xy_2, xy_3, xy_4, xy_5, xy_6, xy_7, xy_8, xy_10, xy_13, xy_19, xy_25, xy_26, xy_31, xy_37, xy_43, xy_44, xy_56, xy_92, xi_add, xi_in, xi_cl, xi_le, xi_lt, xi_eq, xi_m1, xi_lt0, xi_ge0, xa_0, xle_0, xg_0, xq_0, xa_1, xp_1, xu_1, xl_1, xg_1, xle_1, xge_1, xq_1, xs_1, xa_2, xp_2, xu_2, xl_2, xg_2, xle_2, xge_2, xq_2, xs_2, xa_3, xp_3, xu_3, xl_3, xg_3, xle_3, xge_3, xq_3, xs_3, xa_4, xp_4, xu_4, xl_4, xg_4, xle_4, xge_4, xq_4, xs_4, xa_5, xp_5, xu_5, xl_5, xg_5, xle_5, xge_5, xq_5, xs_5, dm_upe, dm_upi, dm_upp, ms_1, ms_2, mr_1_0 hR, show ((19 : Int) = 101) = False by decide, show ((20 : Int) = 101) = False by decide, show ((21 : Int) = 101) = False by decide, show ((22 : Int) = 101) = False by decide, show ((23 : Int) = 101) = False by decide, show ((24 : Int) = 101) = False by decide, w0, w1, w2, w3, w4]
    try rfl
  rw [if_neg z4] at w4
  by_cases z5 : aW cs sz 24 c = true
  · rw [if_pos z5] at w5
    rw [aWH_of (fr := 19) (i := 5) z5 (by decide), oI_s]
    simp (disch := omega) only [kX4_deedOn_75, kX4_deedOn_60, kX4_deedOn_48, kX4_deedOn_36, kX4_deedOn_24, kX4_deedOn_12, kX4_deedOn_0, gX4_deedOn_7, gX4_deedOn_19, gX4_deedOn_31, gX4_deedOn_43, gX4_deedOn_55, gX4_deedOn_67, gX4_deedOn_71, xi_iconst, xi_gets, xw_v2, xw_goto, xw_if, xw_iret, xl_aload_0, xl_bload_0, xk_i0, xk_i1, xk_i2, xk_i3, xk_i4, xk_i5, xk_im1, reduceIte, Nat.reduceBEq, Bool.false_eq_true, Bool.true_eq_false, if_true, if_false, Bool.not_true, Bool.not_false, Bool.and_true, Bool.and_false, Bool.true_and, Bool.false_and, xwm_some, xwm_none, xwm_ite, kl_I, kl_R, kl_X, kl_N, kl_L, dm_cmp, decide_eq_true_eq, decide_true, decide_false, xfI, xfB0, xfB1, xfBi, ite_self, xf00, xf10, xf11, Bool.or_true, Bool.true_or, Bool.or_false, Bool.false_or, Int.reduceToNat, true_and, and_true, and_self, false_and, and_false, not_false_eq_true, not_true_eq_false, ite_not, xwt_def, xg_cI, xg_cL, xg_cR, xg_cX, xg_cN, List.map_cons, List.map_nil, List.sum_cons, List.sum_nil, Nat.reduceAdd, Nat.reduceMul, Nat.reduceLeDiff, Option.toList, List.cons_append, List.nil_append, List.append_nil, dm_rcvR, dm_rcvX, mkI, mkL, mkR, mkS, mk_I, mk_L, mk_R, xd10, xd2, xd3, xd4, ite_T, ite_F, xz_0, xz_1, xz_2, xz_3, xz_4, xz_5, xz_6, xz_7, xz_8, xz_10, xz_13, xz_19, xz_25, xz_26, xz_31, xz_37, xz_43, xz_44, xz_56, xz_92, xy_0, xy_1, xy_2, xy_3, xy_4, xy_5, xy_6, xy_7, xy_8, xy_10, xy_13, xy_19, xy_25, xy_26, xy_31, xy_37, xy_43, xy_44, xy_56, xy_92, xi_add, xi_in, xi_cl, xi_le, xi_lt, xi_eq, xi_m1, xi_lt0, xi_ge0, xa_0, xle_0, xg_0, xq_0, xa_1, xp_1, xu_1, xl_1, xg_1, xle_1, xge_1, xq_1, xs_1, xa_2, xp_2, xu_2, xl_2, xg_2, xle_2, xge_2, xq_2, xs_2, xa_3, xp_3, xu_3, xl_3, xg_3, xle_3, xge_3, xq_3, xs_3, xa_4, xp_4, xu_4, xl_4, xg_4, xle_4, xge_4, xq_4, xs_4, xa_5, xp_5, xu_5, xl_5, xg_5, xle_5, xge_5, xq_5, xs_5, dm_upe, dm_upi, dm_upp, ms_1, ms_2, mr_1_0 hR, show ((19 : Int) = 101) = False by decide, show ((20 : Int) = 101) = False by decide, show ((21 : Int) = 101) = False by decide, show ((22 : Int) = 101) = False by decide, show ((23 : Int) = 101) = False by decide, show ((24 : Int) = 101) = False by decide, w0, w1, w2, w3, w4, w5]
    try rfl
  rw [if_neg z5] at w5
  have e : aWH cs sz 19 6 c = none := aWH_no (fun i hi => by
    rcases (show i = 0 ∨ i = 1 ∨ i = 2 ∨ i = 3 ∨ i = 4 ∨ i = 5 by omega) with rfl | rfl | rfl | rfl | rfl | rfl <;> assumption)
  rw [e, oI_n]
  simp (disch := omega) only [kX4_deedOn_75, kX4_deedOn_74, kX4_deedOn_60, kX4_deedOn_48, kX4_deedOn_36, kX4_deedOn_24, kX4_deedOn_12, kX4_deedOn_0, gX4_deedOn_7, gX4_deedOn_19, gX4_deedOn_31, gX4_deedOn_43, gX4_deedOn_55, gX4_deedOn_67, gX4_deedOn_71, xi_iconst, xi_gets, xw_v2, xw_goto, xw_if, xw_iret, xl_aload_0, xl_bload_0, xk_i0, xk_i1, xk_i2, xk_i3, xk_i4, xk_i5, xk_im1, reduceIte, Nat.reduceBEq, Bool.false_eq_true, Bool.true_eq_false, if_true, if_false, Bool.not_true, Bool.not_false, Bool.and_true, Bool.and_false, Bool.true_and, Bool.false_and, xwm_some, xwm_none, xwm_ite, kl_I, kl_R, kl_X, kl_N, kl_L, dm_cmp, decide_eq_true_eq, decide_true, decide_false, xfI, xfB0, xfB1, xfBi, ite_self, xf00, xf10, xf11, Bool.or_true, Bool.true_or, Bool.or_false, Bool.false_or, Int.reduceToNat, true_and, and_true, and_self, false_and, and_false, not_false_eq_true, not_true_eq_false, ite_not, xwt_def, xg_cI, xg_cL, xg_cR, xg_cX, xg_cN, List.map_cons, List.map_nil, List.sum_cons, List.sum_nil, Nat.reduceAdd, Nat.reduceMul, Nat.reduceLeDiff, Option.toList, List.cons_append, List.nil_append, List.append_nil, dm_rcvR, dm_rcvX, mkI, mkL, mkR, mkS, mk_I, mk_L, mk_R, xd10, xd2, xd3, xd4, ite_T, ite_F, xz_0, xz_1, xz_2, xz_3, xz_4, xz_5, xz_6, xz_7, xz_8, xz_10, xz_13, xz_19, xz_25, xz_26, xz_31, xz_37, xz_43, xz_44, xz_56, xz_92, xy_0, xy_1, xy_2, xy_3, xy_4, xy_5, xy_6, xy_7, xy_8, xy_10, xy_13, xy_19, xy_25, xy_26, xy_31, xy_37, xy_43, xy_44, xy_56, xy_92, xi_add, xi_in, xi_cl, xi_le, xi_lt, xi_eq, xi_m1, xi_lt0, xi_ge0, xa_0, xle_0, xg_0, xq_0, xa_1, xp_1, xu_1, xl_1, xg_1, xle_1, xge_1, xq_1, xs_1, xa_2, xp_2, xu_2, xl_2, xg_2, xle_2, xge_2, xq_2, xs_2, xa_3, xp_3, xu_3, xl_3, xg_3, xle_3, xge_3, xq_3, xs_3, xa_4, xp_4, xu_4, xl_4, xg_4, xle_4, xge_4, xq_4, xs_4, xa_5, xp_5, xu_5, xl_5, xg_5, xle_5, xge_5, xq_5, xs_5, dm_upe, dm_upi, dm_upp, ms_1, ms_2, mr_1_0 hR, show ((19 : Int) = 101) = False by decide, show ((20 : Int) = 101) = False by decide, show ((21 : Int) = 101) = False by decide, show ((22 : Int) = 101) = False by decide, show ((23 : Int) = 101) = False by decide, show ((24 : Int) = 101) = False by decide, w0, w1, w2, w3, w4, w5]
