/-! What is remembered: the class's ring, the reference's blocks. -/
theorem xc_Ri {S : dm_Sc} {d mi : Nat} {as : List Value} {σ : dm_St} {v : Int32} {g : Nat × Nat} {L : Nat → Nat → Int64} {R : Nat → Nat → Value} {P : (Nat → Nat → Int32) → Prop} (h : xc S d mi as σ (Ri v g L R P)) : ∃ I', P I' ∧ ∀ Q, (xc S d mi as σ Q ↔ Q (some (.int v)) (Mk g I' L R)) := by
  obtain ⟨N, r, σ', hr, h1, I', h2, h3⟩ := h
  exact ⟨I', h3, fun Q => xc_iff ⟨N, r, σ', hr, h1, h2⟩⟩
theorem ly_ring : ∀ k, k < 16 → 112 + 7 * k ∈ ly_St ∧ ly_R.contains (87, k, 112 + 7 * k) = true := by decide +kernel
theorem ringR {R : Nat → Nat → Value} (hR : LR R) {k : Nat} (hk : k < 16) : R 87 k = .ref (112 + 7 * k) := hR (87, k, 112 + 7 * k) (List.contains_iff_mem.mp (ly_ring k hk).2)
theorem rem16 : ∀ k, k < 33 → nI k - nI k / 16 * 16 = nI (k % 16) := by decide +kernel
theorem xd16 : ((16 : Int32) = 0) = False := by decide
theorem min16 {c : Nat} : (if c < 16 then nI c else (16 : Int32)) = nI (min 16 c) := by
  by_cases h : c < 16
  · rw [if_pos h, Nat.min_eq_right (by omega)]
  · rw [if_neg h, Nat.min_eq_left (by omega)]; rfl
def Rem (nx cnt : Nat) (br : Int32) (B : Nat → Int32) (I I' : Nat → Nat → Int32) : Prop := I' 0 8 = nI ((nx + 1) % 16) ∧ I' 0 9 = nI (min 16 (cnt + 1)) ∧ (∀ i, ¬ i = 8 → ¬ i = 9 → I' 0 i = I 0 i) ∧ CP I' (112 + 7 * nx) br B ∧ ∀ p, ¬ p = 0 → (p < 112 + 7 * nx ∨ 112 + 7 * nx + 7 ≤ p) → I' p = I p
theorem c_remember {S : dm_Sc} {d : Nat} {g : Nat × Nat} {I : Nat → Nat → Int32} {L : Nat → Nat → Int64} {R : Nat → Nat → Value} (hR : LR R) {nx cnt : Nat} {B : Nat → Int32} {br : Int32} (hx : nx < 16) (hc : cnt ≤ 16) (e8 : I 0 8 = nI nx) (e9 : I 0 9 = nI cnt) (c : CP I 73 br B) : xc S (d + 2) 141 [.ref 0] (Mk g I L R) (Rn g L R (Rem nx cnt br B I)) := by
  have hr := ringR hR hx
  obtain ⟨s0, -⟩ := St_of hR (ly_ring nx hx).1
  rw [iv_X11_remember]
  simp (disch := omega) only [kX11_remember_0, gX11_remember_4, gX11_remember_13, xi_iadd, xi_irem, xi_iconst, xi_bipush, xi_getf, xi_putf, xi_aaload, xw_v2, xw_icmp, xw_if, xw_ret, xw_min, xl_aload_0, xl_bload_0, dm_aald, dm_gf, dm_isRef, dm_pf, xb_10_8, xb_10_9, xk_b16, xk_i1, xt_10_8, xt_10_9, xv_10_5, xv_10_7, xv_10_8, xv_10_9, reduceIte, Nat.reduceBEq, Bool.false_eq_true, Bool.true_eq_false, if_true, if_false, Bool.not_true, Bool.not_false, Bool.and_true, Bool.and_false, Bool.true_and, Bool.false_and, xwm_some, xwm_none, xwm_ite, kl_I, kl_R, kl_X, kl_N, kl_L, dm_cmp, decide_eq_true_eq, decide_true, decide_false, xfI, xfB0, xfB1, xfBi, ite_self, xf00, xf10, xf11, Bool.or_true, Bool.true_or, Bool.or_false, Bool.false_or, Int.reduceToNat, true_and, and_true, and_self, false_and, and_false, not_false_eq_true, not_true_eq_false, ite_not, xwt_def, xg_cI, xg_cL, xg_cR, xg_cX, xg_cN, List.map_cons, List.map_nil, List.sum_cons, List.sum_nil, Nat.reduceAdd, Nat.reduceMul, Nat.reduceLeDiff, Option.toList, List.cons_append, List.nil_append, List.append_nil, dm_rcvR, dm_rcvX, mkI, mkL, mkR, mkS, mk_I, mk_L, mk_R, xd10, xd2, xd3, xd4, ite_T, ite_F, xz_0, xz_1, xz_2, xz_3, xz_4, xz_5, xz_6, xz_7, xz_8, xz_10, xz_13, xz_19, xz_25, xz_26, xz_31, xz_37, xz_43, xz_44, xz_56, xz_92, xy_0, xy_1, xy_2, xy_3, xy_4, xy_5, xy_6, xy_7, xy_8, xy_10, xy_13, xy_19, xy_25, xy_26, xy_31, xy_37, xy_43, xy_44, xy_56, xy_92, xi_add, xi_in, xi_cl, xi_le, xi_lt, xi_eq, xi_m1, xi_lt0, xi_ge0, xa_0, xle_0, xg_0, xq_0, xa_1, xp_1, xu_1, xl_1, xg_1, xle_1, xge_1, xq_1, xs_1, xa_16, xp_16, xu_16, xl_16, xg_16, xle_16, xge_16, xq_16, xs_16, dm_upe, dm_upi, dm_upp, ms_0, ms_73, ms_80, ms_87, ms_88, ms_89, ms_90, mr_0_0 hR, mr_0_5 hR, mr_0_6 hR, mr_0_7 hR, mr_0_10 hR, mr_0_11 hR, mr_0_13 hR, mr_0_14 hR, mr_0_15 hR, mr_0_16 hR, e8, hr, s0]
  refine xc_mono (c_copyFrom hR (p := 73) (by decide) (ly_ring nx hx).1 (by omega) c) ?_
  rintro _ _ ⟨rfl, I', rfl, c2, hf⟩
  have h0 : I' 0 = I 0 := hf 0 (by omega)
  simp (disch := omega) only [kX11_remember_32, kX11_remember_0, gX11_remember_4, gX11_remember_13, xi_iadd, xi_irem, xi_iconst, xi_bipush, xi_getf, xi_putf, xi_aaload, xw_v2, xw_icmp, xw_if, xw_ret, xw_min, xl_aload_0, xl_bload_0, dm_aald, dm_gf, dm_isRef, dm_pf, xb_10_8, xb_10_9, xk_b16, xk_i1, xt_10_8, xt_10_9, xv_10_5, xv_10_7, xv_10_8, xv_10_9, reduceIte, Nat.reduceBEq, Bool.false_eq_true, Bool.true_eq_false, if_true, if_false, Bool.not_true, Bool.not_false, Bool.and_true, Bool.and_false, Bool.true_and, Bool.false_and, xwm_some, xwm_none, xwm_ite, kl_I, kl_R, kl_X, kl_N, kl_L, dm_cmp, decide_eq_true_eq, decide_true, decide_false, xfI, xfB0, xfB1, xfBi, ite_self, xf00, xf10, xf11, Bool.or_true, Bool.true_or, Bool.or_false, Bool.false_or, Int.reduceToNat, true_and, and_true, and_self, false_and, and_false, not_false_eq_true, not_true_eq_false, ite_not, xwt_def, xg_cI, xg_cL, xg_cR, xg_cX, xg_cN, List.map_cons, List.map_nil, List.sum_cons, List.sum_nil, Nat.reduceAdd, Nat.reduceMul, Nat.reduceLeDiff, Option.toList, List.cons_append, List.nil_append, List.append_nil, dm_rcvR, dm_rcvX, mkI, mkL, mkR, mkS, mk_I, mk_L, mk_R, xd10, xd2, xd3, xd4, ite_T, ite_F, xz_0, xz_1, xz_2, xz_3, xz_4, xz_5, xz_6, xz_7, xz_8, xz_10, xz_13, xz_19, xz_25, xz_26, xz_31, xz_37, xz_43, xz_44, xz_56, xz_92, xy_0, xy_1, xy_2, xy_3, xy_4, xy_5, xy_6, xy_7, xy_8, xy_10, xy_13, xy_19, xy_25, xy_26, xy_31, xy_37, xy_43, xy_44, xy_56, xy_92, xi_add, xi_in, xi_cl, xi_le, xi_lt, xi_eq, xi_m1, xi_lt0, xi_ge0, xa_0, xle_0, xg_0, xq_0, xa_1, xp_1, xu_1, xl_1, xg_1, xle_1, xge_1, xq_1, xs_1, xa_16, xp_16, xu_16, xl_16, xg_16, xle_16, xge_16, xq_16, xs_16, dm_upe, dm_upi, dm_upp, ms_0, ms_73, ms_80, ms_87, ms_88, ms_89, ms_90, mr_0_0 hR, mr_0_5 hR, mr_0_6 hR, mr_0_7 hR, mr_0_10 hR, mr_0_11 hR, mr_0_13 hR, mr_0_14 hR, mr_0_15 hR, mr_0_16 hR, h0, e8, e9, xd16, rem16 (nx + 1) (by omega), min16]
  refine ⟨rfl, _, rfl, ?_, ?_, fun i h8 h9 => ?_, c2.fr (fun p h1 h2 => by rw [dm_upp (by omega), dm_upp (by omega)]), fun p hp h => by rw [dm_upp hp, dm_upp hp]; exact hf p h⟩
  · rw [dm_upi (by decide), dm_upe]
  · rw [dm_upe]
  · rw [dm_upi h9, dm_upi h8, h0]
def Kep (cnt : Nat) (I I' : Nat → Nat → Int32) : Prop := I' 264 26 = nI (min 16 (cnt + 1)) ∧ (∀ i, ¬ i = 26 → I' 264 i = I 264 i) ∧ (∀ p, ¬ p = 264 → ¬ p = 280 → I' p = I p) ∧ (∀ i, i < 280 ∨ 1176 ≤ i → I' 280 i = I 280 i) ∧ ∀ k, k < min 16 (cnt + 1) → ∀ i, i < 43 → I' 280 (56 * (5 + k) + i) = if cnt = 16 ∧ k < 15 then I 280 (56 * (5 + (k + 1)) + i) else if ¬ cnt = 16 ∧ k < cnt then I 280 (56 * (5 + k) + i) else I 280 i
theorem m_cpAB {S : dm_Sc} {d : Nat} {g : Nat × Nat} {I : Nat → Nat → Int32} {L : Nat → Nat → Int64} {R : Nat → Nat → Value} {Q : Option Value → dm_St → Prop} (hR : LR R) {a b : Nat} (hd : a + 43 ≤ b ∨ b + 43 ≤ a) (ha : a + 43 ≤ 1288) (hb : b + 43 ≤ 1288) : xc S (d + 1) 189 [.ref 264, .int (nI a), .int (nI b), .int 43] (Mk g I L R) Q ↔ Q none (Mk g (cpI I a b 43) L R) := m_copiesI (n := 43) hR hd ha hb
theorem m_cp0B {S : dm_Sc} {d : Nat} {g : Nat × Nat} {I : Nat → Nat → Int32} {L : Nat → Nat → Int64} {R : Nat → Nat → Value} {Q : Option Value → dm_St → Prop} (hR : LR R) {b : Nat} (hd : 43 ≤ b) (hb : b + 43 ≤ 1288) : xc S (d + 1) 189 [.ref 264, .int 0, .int (nI b), .int 43] (Mk g I L R) Q ↔ Q none (Mk g (cpI I 0 b 43) L R) := m_copiesI (n := 43) (a := 0) hR (by omega) (by omega) hb
theorem m_cpA0 {S : dm_Sc} {d : Nat} {g : Nat × Nat} {I : Nat → Nat → Int32} {L : Nat → Nat → Int64} {R : Nat → Nat → Value} {Q : Option Value → dm_St → Prop} (hR : LR R) {a : Nat} (hd : 43 ≤ a) (ha : a + 43 ≤ 1288) : xc S (d + 1) 189 [.ref 264, .int (nI a), .int 0, .int 43] (Mk g I L R) Q ↔ Q none (Mk g (cpI I a 0 43) L R) := m_copiesI (n := 43) (b := 0) hR (by omega) ha (by omega)
theorem m_cpT {S : dm_Sc} {d : Nat} {g : Nat × Nat} {I : Nat → Nat → Int32} {L : Nat → Nat → Int64} {R : Nat → Nat → Value} {Q : Option Value → dm_St → Prop} (hR : LR R) : xc S (d + 1) 189 [.ref 264, .int 0, .int 1176, .int 43] (Mk g I L R) Q ↔ Q none (Mk g (cpI I 0 1176 43) L R) := m_copiesI (n := 43) (a := 0) (b := 1176) hR (by omega) (by omega) (by omega)
theorem m_cpO {S : dm_Sc} {d : Nat} {g : Nat × Nat} {I : Nat → Nat → Int32} {L : Nat → Nat → Int64} {R : Nat → Nat → Value} {Q : Option Value → dm_St → Prop} (hR : LR R) : xc S (d + 1) 189 [.ref 264, .int 0, .int 1232, .int 43] (Mk g I L R) Q ↔ Q none (Mk g (cpI I 0 1232 43) L R) := m_copiesI (n := 43) (a := 0) (b := 1232) hR (by omega) (by omega) (by omega)
theorem m_keeps {S : dm_Sc} {d : Nat} {g : Nat × Nat} {I : Nat → Nat → Int32} {L : Nat → Nat → Int64} {R : Nat → Nat → Value} (hR : LR R) {cnt : Nat} (hc : cnt ≤ 16) (e26 : I 264 26 = nI cnt) : xc S (d + 2) 192 [.ref 264] (Mk g I L R) (Rn g L R (Kep cnt I)) := by
  rw [iv_X12_keeps]
  by_cases h16 : cnt = 16
  · subst h16
    have e16 : I 264 26 = 16 := e26
    simp (disch := omega) only [kX12_keeps_43, kX12_keeps_0, gX12_keeps_6, gX12_keeps_14, gX12_keeps_40, xi_iadd, xi_isub, xi_imul, xi_iconst, xi_bipush, xi_dupI, xi_dupR, xi_getf, xi_putf, xw_v4, xw_goto, xw_icmp, xw_ret, xl_aload_0, xl_bload_0, xl_iinc_1, xl_iload_1, xl_istore_1, dm_gf, dm_isRef, dm_pf, xb_11_26, xk_b16, xk_b43, xk_b56, xk_i0, xk_i1, xk_i5, xt_11_26, xv_11_26, reduceIte, Nat.reduceBEq, Bool.false_eq_true, Bool.true_eq_false, if_true, if_false, Bool.not_true, Bool.not_false, Bool.and_true, Bool.and_false, Bool.true_and, Bool.false_and, xwm_some, xwm_none, xwm_ite, kl_I, kl_R, kl_X, kl_N, kl_L, dm_cmp, decide_eq_true_eq, decide_true, decide_false, xfI, xfB0, xfB1, xfBi, ite_self, xf00, xf10, xf11, Bool.or_true, Bool.true_or, Bool.or_false, Bool.false_or, Int.reduceToNat, true_and, and_true, and_self, false_and, and_false, not_false_eq_true, not_true_eq_false, ite_not, xwt_def, xg_cI, xg_cL, xg_cR, xg_cX, xg_cN, List.map_cons, List.map_nil, List.sum_cons, List.sum_nil, Nat.reduceAdd, Nat.reduceMul, Nat.reduceLeDiff, Option.toList, List.cons_append, List.nil_append, List.append_nil, dm_rcvR, dm_rcvX, mkI, mkL, mkR, mkS, mk_I, mk_L, mk_R, xd10, xd2, xd3, xd4, ite_T, ite_F, xz_0, xz_1, xz_2, xz_3, xz_4, xz_5, xz_6, xz_7, xz_8, xz_10, xz_13, xz_19, xz_25, xz_26, xz_31, xz_37, xz_43, xz_44, xz_56, xz_92, xy_0, xy_1, xy_2, xy_3, xy_4, xy_5, xy_6, xy_7, xy_8, xy_10, xy_13, xy_19, xy_25, xy_26, xy_31, xy_37, xy_43, xy_44, xy_56, xy_92, xi_add, xi_in, xi_cl, xi_le, xi_lt, xi_eq, xi_m1, xi_lt0, xi_ge0, xa_0, xle_0, xg_0, xq_0, xa_1, xp_1, xu_1, xl_1, xg_1, xle_1, xge_1, xq_1, xs_1, xa_5, xp_5, xu_5, xl_5, xg_5, xle_5, xge_5, xq_5, xs_5, xa_16, xp_16, xu_16, xl_16, xg_16, xle_16, xge_16, xq_16, xs_16, xa_43, xp_43, xu_43, xl_43, xg_43, xle_43, xge_43, xq_43, xs_43, xa_56, xp_56, xu_56, xl_56, xg_56, xle_56, xge_56, xq_56, xs_56, dm_upe, dm_upi, dm_upp, ms_264, mr_264_25 hR, ms_280, e16]
    refine xw_loop (inv := fun j vs σ => ∃ I2 : Nat → Nat → Int32, vs = [.ref 264, .int (nI (1 + j))] ∧ σ = Mk g I2 L R ∧ (∀ p, ¬ p = 280 → I2 p = I p) ∧ (∀ i, i < 280 ∨ 1176 ≤ i → I2 280 i = I 280 i) ∧ (∀ k, k < j → ∀ i, i < 43 → I2 280 (56 * (5 + k) + i) = I 280 (56 * (5 + (k + 1)) + i)) ∧ ∀ k, j ≤ k → k < 16 → ∀ i, i < 43 → I2 280 (56 * (5 + k) + i) = I 280 (56 * (5 + k) + i)) 15 ?_ ?_ 15 0 _ _ (by omega) ⟨I, rfl, rfl, fun _ _ => rfl, fun _ _ => rfl, fun k hk => absurd hk (Nat.not_lt_zero k), fun _ _ _ _ _ => rfl⟩
    · rintro j vs σ hj ⟨I2, rfl, rfl, f1, f2, f3, f4⟩ ih
      have ek : ∀ z : Nat, 5 + (1 + z) - 1 = 5 + z := fun z => by omega
      unfold kX12_keeps_11
      simp (disch := omega) only [kX12_keeps_43, kX12_keeps_0, gX12_keeps_6, gX12_keeps_14, gX12_keeps_40, xi_iadd, xi_isub, xi_imul, xi_iconst, xi_bipush, xi_dupI, xi_dupR, xi_getf, xi_putf, xw_v4, xw_goto, xw_icmp, xw_ret, xl_aload_0, xl_bload_0, xl_iinc_1, xl_iload_1, xl_istore_1, dm_gf, dm_isRef, dm_pf, xb_11_26, xk_b16, xk_b43, xk_b56, xk_i0, xk_i1, xk_i5, xt_11_26, xv_11_26, reduceIte, Nat.reduceBEq, Bool.false_eq_true, Bool.true_eq_false, if_true, if_false, Bool.not_true, Bool.not_false, Bool.and_true, Bool.and_false, Bool.true_and, Bool.false_and, xwm_some, xwm_none, xwm_ite, kl_I, kl_R, kl_X, kl_N, kl_L, dm_cmp, decide_eq_true_eq, decide_true, decide_false, xfI, xfB0, xfB1, xfBi, ite_self, xf00, xf10, xf11, Bool.or_true, Bool.true_or, Bool.or_false, Bool.false_or, Int.reduceToNat, true_and, and_true, and_self, false_and, and_false, not_false_eq_true, not_true_eq_false, ite_not, xwt_def, xg_cI, xg_cL, xg_cR, xg_cX, xg_cN, List.map_cons, List.map_nil, List.sum_cons, List.sum_nil, Nat.reduceAdd, Nat.reduceMul, Nat.reduceLeDiff, Option.toList, List.cons_append, List.nil_append, List.append_nil, dm_rcvR, dm_rcvX, mkI, mkL, mkR, mkS, mk_I, mk_L, mk_R, xd10, xd2, xd3, xd4, ite_T, ite_F, xz_0, xz_1, xz_2, xz_3, xz_4, xz_5, xz_6, xz_7, xz_8, xz_10, xz_13, xz_19, xz_25, xz_26, xz_31, xz_37, xz_43, xz_44, xz_56, xz_92, xy_0, xy_1, xy_2, xy_3, xy_4, xy_5, xy_6, xy_7, xy_8, xy_10, xy_13, xy_19, xy_25, xy_26, xy_31, xy_37, xy_43, xy_44, xy_56, xy_92, xi_add, xi_in, xi_cl, xi_le, xi_lt, xi_eq, xi_m1, xi_lt0, xi_ge0, xa_0, xle_0, xg_0, xq_0, xa_1, xp_1, xu_1, xl_1, xg_1, xle_1, xge_1, xq_1, xs_1, xa_5, xp_5, xu_5, xl_5, xg_5, xle_5, xge_5, xq_5, xs_5, xa_16, xp_16, xu_16, xl_16, xg_16, xle_16, xge_16, xq_16, xs_16, xa_43, xp_43, xu_43, xl_43, xg_43, xle_43, xge_43, xq_43, xs_43, xa_56, xp_56, xu_56, xl_56, xg_56, xle_56, xge_56, xq_56, xs_56, dm_upe, dm_upi, dm_upp, ms_264, mr_264_25 hR, ms_280, m_cpAB hR]
      refine ih _ _ ⟨_, by rw [show 1 + j + 1 = 1 + (j + 1) by omega], rfl, fun p hp => by rw [cpI_ne hp]; exact f1 p hp, fun i hi => by rw [cpI_out (by omega)]; exact f2 i hi, fun k hk i hi => ?_, fun k h1 h2 i hi => ?_⟩
      · by_cases e : k = j
        · subst e
          rw [show 56 * (5 + k) + i = 56 * (5 + (1 + k) - 1) + i by omega, cpI_in hi, show 5 + (1 + k) = 5 + (k + 1) by omega]
          exact f4 (k + 1) (by omega) (by omega) i hi
        · rw [cpI_out (by omega)]; exact f3 k (by omega) i hi
      · rw [cpI_out (by omega)]; exact f4 k (by omega) h2 i hi
    · rintro vs σ ⟨I2, rfl, rfl, f1, f2, f3, f4⟩
      have e2 : I2 264 26 = nI 16 := by rw [f1 264 (by decide)]; exact e16
      unfold kX12_keeps_11
      simp (disch := omega) only [kX12_keeps_53, kX12_keeps_43, kX12_keeps_0, gX12_keeps_6, gX12_keeps_14, gX12_keeps_40, xi_iadd, xi_isub, xi_imul, xi_iconst, xi_bipush, xi_dupI, xi_dupR, xi_getf, xi_putf, xw_v4, xw_goto, xw_icmp, xw_ret, xl_aload_0, xl_bload_0, xl_iinc_1, xl_iload_1, xl_istore_1, dm_gf, dm_isRef, dm_pf, xb_11_26, xk_b16, xk_b43, xk_b56, xk_i0, xk_i1, xk_i5, xt_11_26, xv_11_26, reduceIte, Nat.reduceBEq, Bool.false_eq_true, Bool.true_eq_false, if_true, if_false, Bool.not_true, Bool.not_false, Bool.and_true, Bool.and_false, Bool.true_and, Bool.false_and, xwm_some, xwm_none, xwm_ite, kl_I, kl_R, kl_X, kl_N, kl_L, dm_cmp, decide_eq_true_eq, decide_true, decide_false, xfI, xfB0, xfB1, xfBi, ite_self, xf00, xf10, xf11, Bool.or_true, Bool.true_or, Bool.or_false, Bool.false_or, Int.reduceToNat, true_and, and_true, and_self, false_and, and_false, not_false_eq_true, not_true_eq_false, ite_not, xwt_def, xg_cI, xg_cL, xg_cR, xg_cX, xg_cN, List.map_cons, List.map_nil, List.sum_cons, List.sum_nil, Nat.reduceAdd, Nat.reduceMul, Nat.reduceLeDiff, Option.toList, List.cons_append, List.nil_append, List.append_nil, dm_rcvR, dm_rcvX, mkI, mkL, mkR, mkS, mk_I, mk_L, mk_R, xd10, xd2, xd3, xd4, ite_T, ite_F, xz_0, xz_1, xz_2, xz_3, xz_4, xz_5, xz_6, xz_7, xz_8, xz_10, xz_13, xz_19, xz_25, xz_26, xz_31, xz_37, xz_43, xz_44, xz_56, xz_92, xy_0, xy_1, xy_2, xy_3, xy_4, xy_5, xy_6, xy_7, xy_8, xy_10, xy_13, xy_19, xy_25, xy_26, xy_31, xy_37, xy_43, xy_44, xy_56, xy_92, xi_add, xi_in, xi_cl, xi_le, xi_lt, xi_eq, xi_m1, xi_lt0, xi_ge0, xa_0, xle_0, xg_0, xq_0, xa_1, xp_1, xu_1, xl_1, xg_1, xle_1, xge_1, xq_1, xs_1, xa_5, xp_5, xu_5, xl_5, xg_5, xle_5, xge_5, xq_5, xs_5, xa_16, xp_16, xu_16, xl_16, xg_16, xle_16, xge_16, xq_16, xs_16, xa_43, xp_43, xu_43, xl_43, xg_43, xle_43, xge_43, xq_43, xs_43, xa_56, xp_56, xu_56, xl_56, xg_56, xle_56, xge_56, xq_56, xs_56, dm_upe, dm_upi, dm_upp, ms_264, mr_264_25 hR, ms_280, e2, m_cp0B hR]
      refine ⟨rfl, _, rfl, ?_, fun i hi => ?_, fun p h1 h2 => ?_, fun i hi => ?_, fun k hk i hi => ?_⟩
      · rw [dm_upe, cpI_ne (by decide), dm_upe]; decide
      · rw [dm_upi hi, cpI_ne (by decide), dm_upi hi, f1 264 (by decide)]
      · rw [dm_upp h1, cpI_ne h2, dm_upp h1, f1 p h2]
      · rw [dm_upp (by decide), cpI_out (by omega), dm_upp (by decide)]; exact f2 i hi
      · rw [dm_upp (by decide)]
        by_cases h15 : k < 15
        · rw [cpI_out (by omega), dm_upp (by decide), if_pos ⟨rfl, h15⟩]; exact f3 k h15 i hi
        · obtain rfl : k = 15 := by omega
          rw [show 56 * (5 + 15) + i = 56 * (5 + (16 - 1)) + i from rfl, cpI_in hi, dm_upp (by decide), if_neg (by omega), if_neg (by omega), Nat.zero_add]; exact f2 i (by omega)
  · have e0 : ¬ I 264 26 = 16 := by rw [e26, xq_16 (by omega)]; exact h16
    simp (disch := omega) only [kX12_keeps_53, kX12_keeps_43, kX12_keeps_0, gX12_keeps_6, gX12_keeps_14, gX12_keeps_40, xi_iadd, xi_isub, xi_imul, xi_iconst, xi_bipush, xi_dupI, xi_dupR, xi_getf, xi_putf, xw_v4, xw_goto, xw_icmp, xw_ret, xl_aload_0, xl_bload_0, xl_iinc_1, xl_iload_1, xl_istore_1, dm_gf, dm_isRef, dm_pf, xb_11_26, xk_b16, xk_b43, xk_b56, xk_i0, xk_i1, xk_i5, xt_11_26, xv_11_26, reduceIte, Nat.reduceBEq, Bool.false_eq_true, Bool.true_eq_false, if_true, if_false, Bool.not_true, Bool.not_false, Bool.and_true, Bool.and_false, Bool.true_and, Bool.false_and, xwm_some, xwm_none, xwm_ite, kl_I, kl_R, kl_X, kl_N, kl_L, dm_cmp, decide_eq_true_eq, decide_true, decide_false, xfI, xfB0, xfB1, xfBi, ite_self, xf00, xf10, xf11, Bool.or_true, Bool.true_or, Bool.or_false, Bool.false_or, Int.reduceToNat, true_and, and_true, and_self, false_and, and_false, not_false_eq_true, not_true_eq_false, ite_not, xwt_def, xg_cI, xg_cL, xg_cR, xg_cX, xg_cN, List.map_cons, List.map_nil, List.sum_cons, List.sum_nil, Nat.reduceAdd, Nat.reduceMul, Nat.reduceLeDiff, Option.toList, List.cons_append, List.nil_append, List.append_nil, dm_rcvR, dm_rcvX, mkI, mkL, mkR, mkS, mk_I, mk_L, mk_R, xd10, xd2, xd3, xd4, ite_T, ite_F, xz_0, xz_1, xz_2, xz_3, xz_4, xz_5, xz_6, xz_7, xz_8, xz_10, xz_13, xz_19, xz_25, xz_26, xz_31, xz_37, xz_43, xz_44, xz_56, xz_92, xy_0, xy_1, xy_2, xy_3, xy_4, xy_5, xy_6, xy_7, xy_8, xy_10, xy_13, xy_19, xy_25, xy_26, xy_31, xy_37, xy_43, xy_44, xy_56, xy_92, xi_add, xi_in, xi_cl, xi_le, xi_lt, xi_eq, xi_m1, xi_lt0, xi_ge0, xa_0, xle_0, xg_0, xq_0, xa_1, xp_1, xu_1, xl_1, xg_1, xle_1, xge_1, xq_1, xs_1, xa_5, xp_5, xu_5, xl_5, xg_5, xle_5, xge_5, xq_5, xs_5, xa_16, xp_16, xu_16, xl_16, xg_16, xle_16, xge_16, xq_16, xs_16, xa_43, xp_43, xu_43, xl_43, xg_43, xle_43, xge_43, xq_43, xs_43, xa_56, xp_56, xu_56, xl_56, xg_56, xle_56, xge_56, xq_56, xs_56, dm_upe, dm_upi, dm_upp, ms_264, mr_264_25 hR, ms_280, e26, h16, m_cp0B hR]
    refine ⟨rfl, _, rfl, ?_, fun i hi => ?_, fun p h1 h2 => ?_, fun i hi => ?_, fun k hk i hi => ?_⟩
    · rw [dm_upe, cpI_ne (by decide), e26, xa_1, Nat.min_eq_right (by omega)]
    · rw [dm_upi hi, cpI_ne (by decide)]
    · rw [dm_upp h1, cpI_ne h2]
    · rw [dm_upp (by decide), cpI_out (by omega)]
    · rw [dm_upp (by decide)]
      by_cases hkc : k < cnt
      · rw [cpI_out (by omega), if_neg (by omega), if_pos ⟨h16, hkc⟩]
      · obtain rfl : k = cnt := by omega
        rw [cpI_in hi, if_neg (by omega), if_neg (by omega), Nat.zero_add]
theorem Rl.deed {h mo nr n ne K K' : Nat} {D W : Fml} {I I0 I1 I' I2 : Nat → Nat → Int32} {L : Nat → Nat → Int64} {R : Nat → Nat → Value} {B' : Nat → Int32} (r : Rl h mo nr n ne K D W I L R) {nx cnt : Nat} (hx : nx < 16) (hc : cnt ≤ 16) (hu : ∀ k, k < cnt → WFB nr n K (blk I (56 * (5 + k))) ∧ CP I (112 + 7 * ((nx + 16 - cnt + k) % 16)) (I 270 3) (blk I (56 * (5 + k)))) (c1 : Rem nx cnt (I 270 3) (I 280) I I0) (c2 : CP I1 73 (I 270 3) B') (c3 : FrC 73 I0 I1) (k1 : Kep cnt (dm_up I1 264 0 0) I') (k2 : RB I2 0 B') (k3 : FrM 0 I' I2) (w : WFB nr n K' B') (hK : K ≤ K') : Rl h mo nr n ne K' D W I2 L R := by
  obtain ⟨a, b, c, e, f, -, m, t, u⟩ := r
  obtain ⟨r1, r2, r3, r4, r5⟩ := c1
  obtain ⟨k4, k5, k6, k7, k8⟩ := k1
  have cA : ∀ p, ¬ p = 0 → (p < 73 ∨ 80 ≤ p) → (p < 112 + 7 * nx ∨ 112 + 7 * nx + 7 ≤ p) → ¬ scr p → I1 p = I p := fun p h1 h2 h3 h4 => (c3 p h2 h4).trans (r5 p h1 h3)
  have mA : ∀ p, ¬ p = 264 → ¬ p = 280 → ¬ p = 278 → ¬ p = 279 → I2 p = I1 p := fun p h1 h2 h3 h4 => (k3.1 p h2 h3 h4).trans ((k6 p h1 h2).trans (dm_upp h1))
  have lo : ∀ p, 1 ≤ p → p < 73 → ¬ scr p → I2 p = I p := fun p h1 h2 h3 => (mA p (by omega) (by omega) (by omega) (by omega)).trans (cA p (by omega) (by omega) (by omega) h3)
  have mi : ∀ p, 80 ≤ p → p < 112 → I2 p = I p := fun p h1 h2 => (mA p (by omega) (by omega) (by omega) (by omega)).trans (cA p (by omega) (by omega) (by omega) (by unfold scr; omega))
  have hi : ∀ p, (224 ≤ p ∧ p < 290) → ¬ p = 264 → ¬ p = 280 → ¬ p = 278 → ¬ p = 279 → I2 p = I p := fun p h1 h2 h3 h4 h5 => (mA p h2 h3 h4 h5).trans (cA p (by omega) (by omega) (by omega) (by unfold scr; omega))
  have h264 : ∀ i, ¬ i = 0 → ¬ i = 26 → I2 264 i = I 264 i := fun i h1 h2 => by
    rw [k3.1 264 (by decide) (by decide) (by decide), k5 i h2, dm_upi h1, cA 264 (by omega) (by omega) (by omega) (by unfold scr; omega)]
  have h280 : ∀ i, 43 ≤ i → i < 280 → I2 280 i = I 280 i := fun i h1 h2 => by
    rw [k3.2 i (by omega), k7 i (by omega), dm_upp (by decide), cA 280 (by omega) (by omega) (by omega) (by unfold scr; omega)]
  have b280 : ∀ i, (dm_up I1 264 0 0) 280 i = I 280 i := fun i => by
    rw [dm_upp (by decide), cA 280 (by omega) (by omega) (by omega) (by unfold scr; omega)]
  have z0 : ∀ i, ¬ i = 8 → ¬ i = 9 → I2 0 i = I 0 i := fun i h8 h9 => by
    rw [mA 0 (by decide) (by decide) (by decide) (by decide), c3 0 (by omega) (by unfold scr; omega)]; exact r3 i h8 h9
  have e3 : I2 270 3 = I 270 3 := by rw [hi 270 (by omega) (by decide) (by decide) (by decide) (by decide)]
  have eB : EqB B' (I2 280) := fun i hi => by have := k2 i hi; rw [Nat.zero_add] at this; exact this.symm
  refine ⟨a, b.fr (fun p h1 h2 h3 => lo p (by omega) (by omega) h3) (hi _ (by omega) (by decide) (by decide) (by decide) (by decide)) (hi _ (by omega) (by decide) (by decide) (by decide) (by decide)) (hi _ (by omega) (by decide) (by decide) (by decide) (by decide)) (hi _ (by omega) (by decide) (by decide) (by decide) (by decide)) (h264 _ (by decide) (by decide)) (h264 _ (by decide) (by decide)) (fun _ _ _ => rfl) rfl rfl, c.fr (fun p h1 h2 => lo p (by omega) (by omega) (by unfold scr; omega)) (hi _ (by omega) (by decide) (by decide) (by decide) (by decide)) rfl, ⟨w.eqv eB, ?_⟩, f.fr (fun p h1 h2 => mi p (by omega) (by omega)) (fun i h1 h2 => h280 _ (by omega) (by omega)), ?_, ?_, t.fr (by rw [lo 1 (by omega) (by omega) (by unfold scr; omega)]) (lo 2 (by omega) (by omega) (by unfold scr; omega)) (h264 _ (by decide) (by decide)) (hi _ (by omega) (by decide) (by decide) (by decide) (by decide)), ?_⟩
  · rw [e3]
    exact (c2.fr (fun p h1 h2 => mA p (by omega) (by omega) (by omega) (by omega))).eq eB
  · refine ⟨min 16 (cnt + 1), (nx + 1) % 16, by omega, Nat.mod_lt _ (by decide), ?_, ?_, ?_, fun k hk => ?_⟩
    · rw [mA 0 (by decide) (by decide) (by decide) (by decide), c3 0 (by omega) (by unfold scr; omega)]; exact r1
    · rw [mA 0 (by decide) (by decide) (by decide) (by decide), c3 0 (by omega) (by unfold scr; omega)]; exact r2
    · rw [k3.1 264 (by decide) (by decide) (by decide)]; exact k4
    · have q8 := k8 k hk
      have mo : ∀ i, i < 43 → I2 280 (56 * (5 + k) + i) = I' 280 (56 * (5 + k) + i) := fun i hi => k3.2 _ (by omega)
      -- an elder block, held elsewhere in the ring
      have old : ∀ k' pl, k' < cnt → (nx + 16 - cnt + k') % 16 = pl → pl < 16 → ¬ pl = nx → (∀ i, i < 43 → I2 280 (56 * (5 + k) + i) = I 280 (56 * (5 + k') + i)) → WFB nr n K' (blk I2 (56 * (5 + k))) ∧ CP I2 (112 + 7 * pl) (I2 270 3) (blk I2 (56 * (5 + k))) := fun k' pl h1 h2 h3 h4 h5 => by
        obtain ⟨u1, u2⟩ := hu k' h1
        have eE : EqB (blk I (56 * (5 + k'))) (blk I2 (56 * (5 + k))) := fun i hi => (h5 i hi).symm
        refine ⟨(u1.eqv eE).K hK, ?_⟩
        rw [e3]
        rw [h2] at u2
        exact (u2.fr (fun p g1 g2 => (mA p (by omega) (by omega) (by omega) (by omega)).trans (cA p (by omega) (by omega) (by omega) (by unfold scr; omega)))).eq eE
      have new : (∀ i, i < 43 → I2 280 (56 * (5 + k) + i) = I 280 i) → WFB nr n K' (blk I2 (56 * (5 + k))) ∧ CP I2 (112 + 7 * nx) (I2 270 3) (blk I2 (56 * (5 + k))) := fun h5 => by
        have eE : EqB (I 280) (blk I2 (56 * (5 + k))) := fun i hi => (h5 i hi).symm
        refine ⟨(e.1.eqv eE).K hK, ?_⟩
        rw [e3]
        exact (r4.fr (fun p g1 g2 => (mA p (by omega) (by omega) (by omega) (by omega)).trans (c3 p (by omega) (by unfold scr; omega)))).eq eE
      by_cases h16 : cnt = 16
      · subst h16
        by_cases hk15 : k < 15
        · have ep : ((nx + 1) % 16 + 16 - min 16 (16 + 1) + k) % 16 = (nx + 16 - 16 + (k + 1)) % 16 := by omega
          rw [ep]
          exact old (k + 1) _ (by omega) rfl (by omega) (by omega) (fun i hi => by rw [mo i hi, q8 i hi, if_pos ⟨rfl, hk15⟩, b280])
        · have ep : ((nx + 1) % 16 + 16 - min 16 (16 + 1) + k) % 16 = nx := by omega
          rw [ep]
          exact new (fun i hi => by rw [mo i hi, q8 i hi, if_neg (by omega), if_neg (by omega), b280])
      · by_cases hkc : k < cnt
        · have ep : ((nx + 1) % 16 + 16 - min 16 (cnt + 1) + k) % 16 = (nx + 16 - cnt + k) % 16 := by omega
          rw [ep]
          exact old k _ hkc rfl (by omega) (by omega) (fun i hi => by rw [mo i hi, q8 i hi, if_neg (by omega), if_pos ⟨h16, hkc⟩, b280])
        · have ep : ((nx + 1) % 16 + 16 - min 16 (cnt + 1) + k) % 16 = nx := by omega
          rw [ep]
          exact new (fun i hi => by rw [mo i hi, q8 i hi, if_neg (by omega), if_neg (by omega), b280])
  · have m' : MRK I nr n K' := ⟨m.1, fun j hj => ⟨(m.2 j hj).1, fun z => ⟨((m.2 j hj).2 z).1.K hK, ((m.2 j hj).2 z).2⟩⟩⟩
    exact m'.fr (z0 12 (by decide) (by decide)) (hi _ (by omega) (by decide) (by decide) (by decide) (by decide)) e3 (fun p h1 h2 => hi p (by omega) (by omega) (by omega) (by omega) (by omega)) (fun i h1 h2 => h280 i (by omega) h2)
  · refine ⟨?_, ?_, u.2.2⟩
    · rw [mi 96 (by omega) (by omega), mi 97 (by omega) (by omega), mi 98 (by omega) (by omega)]; exact u.1
    · rw [lo 26 (by omega) (by omega) (by unfold scr; omega), lo 30 (by omega) (by omega) (by unfold scr; omega), lo 57 (by omega) (by omega) (by unfold scr; omega), lo 61 (by omega) (by omega) (by unfold scr; omega)]; exact u.2.1
theorem ms_74 : ly_SH[74]? = some (.inr (0, 6)) := by decide +kernel
theorem mr_73_3 {R : Nat → Nat → Value} (h : LR R) : R 73 3 = .ref 74 := h (73, 3, 74) (List.contains_iff_mem.mp (by decide +kernel))
theorem ms_75 : ly_SH[75]? = some (.inr (0, 6)) := by decide +kernel
theorem mr_73_4 {R : Nat → Nat → Value} (h : LR R) : R 73 4 = .ref 75 := h (73, 4, 75) (List.contains_iff_mem.mp (by decide +kernel))
theorem ms_76 : ly_SH[76]? = some (.inr (0, 6)) := by decide +kernel
theorem mr_73_5 {R : Nat → Nat → Value} (h : LR R) : R 73 5 = .ref 76 := h (73, 5, 76) (List.contains_iff_mem.mp (by decide +kernel))
theorem ms_77 : ly_SH[77]? = some (.inr (0, 6)) := by decide +kernel
theorem mr_73_6 {R : Nat → Nat → Value} (h : LR R) : R 73 6 = .ref 77 := h (73, 6, 77) (List.contains_iff_mem.mp (by decide +kernel))
theorem ms_78 : ly_SH[78]? = some (.inr (0, 6)) := by decide +kernel
theorem mr_73_7 {R : Nat → Nat → Value} (h : LR R) : R 73 7 = .ref 78 := h (73, 7, 78) (List.contains_iff_mem.mp (by decide +kernel))
theorem ms_79 : ly_SH[79]? = some (.inr (0, 6)) := by decide +kernel
theorem mr_73_8 {R : Nat → Nat → Value} (h : LR R) : R 73 8 = .ref 79 := h (73, 8, 79) (List.contains_iff_mem.mp (by decide +kernel))
theorem ms_81 : ly_SH[81]? = some (.inr (0, 6)) := by decide +kernel
theorem mr_80_3 {R : Nat → Nat → Value} (h : LR R) : R 80 3 = .ref 81 := h (80, 3, 81) (List.contains_iff_mem.mp (by decide +kernel))
theorem ms_82 : ly_SH[82]? = some (.inr (0, 6)) := by decide +kernel
theorem mr_80_4 {R : Nat → Nat → Value} (h : LR R) : R 80 4 = .ref 82 := h (80, 4, 82) (List.contains_iff_mem.mp (by decide +kernel))
theorem ms_83 : ly_SH[83]? = some (.inr (0, 6)) := by decide +kernel
theorem mr_80_5 {R : Nat → Nat → Value} (h : LR R) : R 80 5 = .ref 83 := h (80, 5, 83) (List.contains_iff_mem.mp (by decide +kernel))
theorem ms_84 : ly_SH[84]? = some (.inr (0, 6)) := by decide +kernel
theorem mr_80_6 {R : Nat → Nat → Value} (h : LR R) : R 80 6 = .ref 84 := h (80, 6, 84) (List.contains_iff_mem.mp (by decide +kernel))
theorem ms_85 : ly_SH[85]? = some (.inr (0, 6)) := by decide +kernel
theorem mr_80_7 {R : Nat → Nat → Value} (h : LR R) : R 80 7 = .ref 85 := h (80, 7, 85) (List.contains_iff_mem.mp (by decide +kernel))
theorem ms_86 : ly_SH[86]? = some (.inr (0, 6)) := by decide +kernel
theorem mr_80_8 {R : Nat → Nat → Value} (h : LR R) : R 80 8 = .ref 86 := h (80, 8, 86) (List.contains_iff_mem.mp (by decide +kernel))
theorem Rem.cp {nx cnt : Nat} {br br' : Int32} {B B' : Nat → Int32} {I I' : Nat → Nat → Int32} (c1 : Rem nx cnt br B I I') (c : CP I 73 br' B') : CP I' 73 br' B' := c.fr (fun p h1 h2 => c1.2.2.2.2 p (by omega) (by omega))
theorem Rem.hc {nx cnt h nr n ne : Nat} {br : Int32} {B H : Nat → Int32} {D W : Fml} {I I' : Nat → Nat → Int32} (c1 : Rem nx cnt br B I I') (hh : h ∈ ly_Ho) (c : HC I h H nr n ne D W) : HC I' h H nr n ne D W := c.fr hh (fun p h1 h2 h3 => c1.2.2.2.2 p (by omega) (by omega))
theorem Rem.hi {nx cnt : Nat} {br : Int32} {B : Nat → Int32} {I I' I1 : Nat → Nat → Int32} (hx : nx < 16) (c1 : Rem nx cnt br B I I') (c : FrC 73 I' I1) {p : Nat} (hp : 224 ≤ p ∧ p < 290) : I1 p = I p := (c p (by omega) (by unfold scr; omega)).trans (c1.2.2.2.2 p (by omega) (by omega))
theorem Kep.B {cnt : Nat} {I I' : Nat → Nat → Int32} {X : Nat → Int32} (k : Kep cnt I I') (h : I 280 = X) : RB I' 0 X := fun i hi => by rw [Nat.zero_add, k.2.2.2.1 i (by omega), h]
/-- what is so between calls, g: what was left of thrown ones -/
def AL (K : Nat) (g : Nat × Nat) (σ : dm_St) : Prop := ∃ h mo nr n ne D W I L R, σ = Mk g I L R ∧ Rl h mo nr n ne K D W I L R
/-- a call that both answer alike -/
def Pb (S : dm_Sc) (d ci mi : Nat) (as : List Value) : Prop := ∀ K g σ, K ≤ 600 → AL K g σ → ∃ v σ1 σ2, (∀ Q, xc S (d + 60) ci (.ref 0 :: as) σ Q ↔ Q (some (.int v)) σ1) ∧ (∀ Q, xc S (d + 60) mi (.ref 264 :: as) σ1 Q ↔ Q (some (.int v)) σ2) ∧ AL (K + 1) g σ2
theorem Qt.th {I I' : Nat → Nat → Int32} (q : Qt I I') (v : Int32) : Qt I (dm_up I' 264 0 v) := by
  obtain ⟨q1, q2, q3, q4, q5, q6⟩ := q
  refine ⟨fun p h1 h2 h3 => by rw [dm_upp h2]; exact q1 p h1 h2 h3, fun i h1 h2 h3 h4 => by rw [dm_upi h1]; exact q2 i h1 h2 h3 h4, fun i hi => by rw [dm_upp (by decide)]; exact q3 i hi, ?_, ?_, ?_⟩
  · rw [dm_upp (by decide)]; exact q4
  · rw [dm_upp (by decide)]; exact q5
  · rw [dm_upp (by decide)]; exact q6
theorem AL.q {h mo nr n ne K : Nat} {D W : Fml} {g : Nat × Nat} {I I' : Nat → Nat → Int32} {L : Nat → Nat → Int64} {R : Nat → Nat → Value} (r : Rl h mo nr n ne K D W I L R) (q : Qt I I') : AL (K + 1) g (Mk g I' L R) := ⟨h, mo, nr, n, ne, D, W, I', L, R, rfl, (r.q q (QL.refl L) r.1 rfl).K (by omega)⟩
