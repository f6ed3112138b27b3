/-! The fresh object: house. -/
def Fh (S : dm_Sc) (d ci mi : Nat) (as : List Value) : Prop := ∀ K g σ, K ≤ 600 → FR K g σ → ∃ v σ1 σ2, (∀ Q, xc S (d + 60) ci (.ref 0 :: as) σ Q ↔ Q (some (.int v)) σ1) ∧ (∀ Q, xc S (d + 60) mi (.ref 264 :: as) σ1 Q ↔ Q (some (.int v)) σ2) ∧ (AL (K + 1) g σ2 ∨ FR (K + 1) g σ2)
theorem fb_house {S : dm_Sc} {d : Nat} : Fh S d 112 171 [] := by
  intro K g σ hK hA
  obtain ⟨br, h, mo, nr, n, ne, D, W, I, L, R, rfl, n0, r⟩ := hA
  obtain ⟨hR, ⟨⟨hh, h1, h2⟩, wH, hC, hD, hW, -, -, hbr, -⟩, hM, ⟨wb, cp⟩, hS, ⟨cnt, nx, u1, u2, u3, u4, u5, u6⟩, hMk, hT, hCo⟩ := id r
  have hn : n ≤ 6 := wH.1.2.2.2.2.1
  have h6 : nr ≤ 6 := wH.1.2.2.2.1
  have hN : I 270 1 = nI n := wH.1.2.1
  have hE : ¬ I 270 5 = 0 := by
    obtain ⟨ev, e1, e30, ee⟩ := wH.2.1.2.2
    rw [ee, xq_0 (by omega)]; omega
  obtain ⟨⟨hmo, r3, r4⟩, mon⟩ := hM
  obtain ⟨cs, sz, tp, hs, t2, t3⟩ := hT.cs
  have hm2 := Mo2 hmo
  have hl2 := ly_Ho2 hh
  have hh' := Ho_o hh
  obtain ⟨u0, -⟩ := Ho_of hR hh'
  obtain ⟨mm0, -⟩ := Mo_of hR hmo
  have hod : I (37 - h + 23) 0 = 1 ∧ I (37 - h + 27) 0 = 0 := by
    have k2 := hCo.2.1
    rcases hl2 with rfl | rfl
    · exact ⟨k2.2.2.1, k2.2.2.2⟩
    · exact ⟨k2.1, k2.2.1⟩
  have cl : xc S (d + 60) 112 [.ref 0] (Mk g I L R) (Rq (some (.int (nI (hMo cs sz 1001 ((0, 0), hd00)).1.2))) g (fun I' L' R' => LR R' ∧ (I' (37 - h + 23) 0 = I (37 - h + 23) 0 ∧ I' (37 - h + 27) 0 = I (37 - h + 27) 0) ∧ I' 1 1 = 0 ∧ (∀ p, ¬ p = 1 → ¬ (37 - h ≤ p ∧ p < 37 - h + 31) → L' p = L p) ∧ (hMo cs sz 1001 ((0, 0), hd00)).1.2 ≤ 20000 ∧ (¬ (hMo cs sz 1001 ((0, 0), hd00)).1.2 = 0 → (∀ p, ¬ p = 1 → ¬ (37 - h ≤ p ∧ p < 37 - h + 31) → I' p = I p) ∧ ∀ i, R' 0 i = R 0 i) ∧ ((hMo cs sz 1001 ((0, 0), hd00)).1.2 = 0 → (∀ p, ¬ p = 0 → ¬ p = 1 → ¬ (37 - h ≤ p ∧ p < 37 - h + 31) → ¬ (73 ≤ p ∧ p < 80) → ¬ p = mo → ¬ p = 90 → I' p = I p) ∧ (I' 0 8 = I 0 8 ∧ I' 0 9 = 0 ∧ I' 0 12 = 0 ∧ I' mo 3 = 0 ∧ I' 90 2 = 0) ∧ (R' 0 1 = .ref (37 - h) ∧ R' 0 2 = .ref h ∧ R' 0 3 = .ref mo ∧ R' 0 4 = .ref (134 - mo)) ∧ ClX (37 - h) I' L' (hMo cs sz 1001 ((0, 0), hd00)).2 ∧ PHd (hMo cs sz 1001 ((0, 0), hd00)).1.1 (hMo cs sz 1001 ((0, 0), hd00)).2 ∧ BgX I' (hMo cs sz 1001 ((0, 0), hd00)).2))) := by
    refine xc_RqI (fun Q hQ => ?_)
    rw [iv_X11_house]
    simp (disch := omega) only [kX11_house_0, gX11_house_13, xi_iconst, xi_getf, xi_putf, xw_v2, xw_if, xw_iret, xl_aload_0, xl_aload_2, xl_astore_2, xl_bload_0, xl_bload_2, xl_iload_1, xl_istore_1, dm_gf, dm_isRef, dm_pf, xb_10_12, xb_10_9, xb_4_3, xb_6_2, xk_i0, xt_10_1, xt_10_12, xt_10_2, xt_10_9, xt_4_3, xt_6_2, xv_10_0, xv_10_1, xv_10_13, xv_10_2, xv_10_3, xv_10_5, reduceIte, Nat.reduceBEq, Bool.false_eq_true, Bool.true_eq_false, if_true, if_false, Bool.not_true, Bool.not_false, Bool.and_true, Bool.and_false, Bool.true_and, Bool.false_and, xwm_some, xwm_none, xwm_ite, kl_I, kl_R, kl_X, kl_N, kl_L, dm_cmp, decide_eq_true_eq, decide_true, decide_false, xfI, xfB0, xfB1, xfBi, ite_self, xf00, xf10, xf11, Bool.or_true, Bool.true_or, Bool.or_false, Bool.false_or, Int.reduceToNat, true_and, and_true, and_self, false_and, and_false, not_false_eq_true, not_true_eq_false, ite_not, xwt_def, xg_cI, xg_cL, xg_cR, xg_cX, xg_cN, List.map_cons, List.map_nil, List.sum_cons, List.sum_nil, Nat.reduceAdd, Nat.reduceMul, Nat.reduceLeDiff, Option.toList, List.cons_append, List.nil_append, List.append_nil, dm_rcvR, dm_rcvX, mkI, mkL, mkR, mkS, mk_I, mk_L, mk_R, xd10, xd2, xd3, xd4, ite_T, ite_F, xz_0, xz_1, xz_2, xz_3, xz_4, xz_5, xz_6, xz_7, xz_8, xz_10, xz_13, xz_19, xz_25, xz_26, xz_31, xz_37, xz_43, xz_44, xz_56, xz_92, xy_0, xy_1, xy_2, xy_3, xy_4, xy_5, xy_6, xy_7, xy_8, xy_10, xy_13, xy_19, xy_25, xy_26, xy_31, xy_37, xy_43, xy_44, xy_56, xy_92, xi_add, xi_in, xi_cl, xi_le, xi_lt, xi_eq, xi_m1, xi_lt0, xi_ge0, xa_0, xle_0, xg_0, xq_0, dm_upe, dm_upi, dm_upp, ms_0, ms_1, ms_2, ms_73, ms_80, ms_87, ms_88, ms_89, ms_90, ms_91, ms_92, ms_93, ms_99, ms_101, ms_74, ms_75, ms_76, ms_77, ms_78, ms_79, ms_81, ms_82, ms_83, ms_84, ms_85, ms_86, mr_0_0 hR, mr_0_5 hR, mr_0_6 hR, mr_0_7 hR, mr_0_10 hR, mr_0_11 hR, mr_0_13 hR, mr_0_14 hR, mr_0_15 hR, mr_0_16 hR, mr_73_3 hR, mr_73_4 hR, mr_73_5 hR, mr_73_6 hR, mr_73_7 hR, mr_73_8 hR, mr_80_3 hR, mr_80_4 hR, mr_80_5 hR, mr_80_6 hR, mr_80_7 hR, mr_80_8 hR, h2, u0]
    refine xc_mono (xc_deeper (d' := d + 59) (by omega) (c_readHouse (d := d) hR tp hh' hod)) ?_
    rintro _ _ ⟨rfl, I1, L1, R1, rfl, k1, k2, k3, k4⟩
    have hF : (hMo cs sz 1001 ((0, 0), hd00)).1.2 ≤ 20000 := hMo_le hs 1001 ((0, 0), hd00) (Nat.zero_le _) (Nat.zero_le _) PHd_00
    have q0 : R1 0 = R 0 := k2.2.2.2 0 (by decide)
    have q1 : R1 0 1 = .ref h := by rw [q0]; exact h1
    have q2 : R1 0 2 = .ref (37 - h) := by rw [q0]; exact h2
    have q3 : R1 0 3 = .ref mo := by rw [q0]; exact r3
    have q4 : R1 0 4 = .ref (134 - mo) := by rw [q0]; exact r4
    generalize (hMo cs sz 1001 ((0, 0), hd00)) = F at *
    by_cases z : F.1.2 = 0
    · obtain ⟨kc, kp⟩ := k4 z
      rw [show (some (Value.int (nI F.1.2))) = some (.int 0) by rw [z]; rfl] at hQ
      have hR2 : LR (dm_up (dm_up R1 0 2 (.ref h)) 0 1 (.ref (37 - h))) := (k1.up fr01.2 _).up fr01.1 _
      have v1 : dm_up (dm_up R1 0 2 (.ref h)) 0 1 (.ref (37 - h)) 0 1 = .ref (37 - h) := dm_upe
      have v5 := mr_0_5 hR2
      have v13 := mr_0_13 hR2
      have v3 : dm_up (dm_up R1 0 2 (.ref h)) 0 1 (.ref (37 - h)) 0 3 = .ref mo := by rw [dm_upi (by decide), dm_upi (by decide)]; exact q3
      have vq : dm_up R1 0 2 (.ref h) 0 1 = .ref h := by rw [dm_upi (by decide)]; exact q1
      simp (disch := omega) only [kX11_house_18, gX11_house_13, xi_iconst, xi_getf, xi_putf, xw_v2, xw_if, xw_iret, xl_aload_0, xl_aload_2, xl_astore_2, xl_bload_0, xl_bload_2, xl_iload_1, xl_istore_1, dm_gf, dm_isRef, dm_pf, xb_10_12, xb_10_9, xb_4_3, xb_6_2, xk_i0, xt_10_1, xt_10_12, xt_10_2, xt_10_9, xt_4_3, xt_6_2, xv_10_0, xv_10_1, xv_10_13, xv_10_2, xv_10_3, xv_10_5, reduceIte, Nat.reduceBEq, Bool.false_eq_true, Bool.true_eq_false, if_true, if_false, Bool.not_true, Bool.not_false, Bool.and_true, Bool.and_false, Bool.true_and, Bool.false_and, xwm_some, xwm_none, xwm_ite, kl_I, kl_R, kl_X, kl_N, kl_L, dm_cmp, decide_eq_true_eq, decide_true, decide_false, xfI, xfB0, xfB1, xfBi, ite_self, xf00, xf10, xf11, Bool.or_true, Bool.true_or, Bool.or_false, Bool.false_or, Int.reduceToNat, true_and, and_true, and_self, false_and, and_false, not_false_eq_true, not_true_eq_false, ite_not, xwt_def, xg_cI, xg_cL, xg_cR, xg_cX, xg_cN, List.map_cons, List.map_nil, List.sum_cons, List.sum_nil, Nat.reduceAdd, Nat.reduceMul, Nat.reduceLeDiff, Option.toList, List.cons_append, List.nil_append, List.append_nil, dm_rcvR, dm_rcvX, mkI, mkL, mkR, mkS, mk_I, mk_L, mk_R, xd10, xd2, xd3, xd4, ite_T, ite_F, xz_0, xz_1, xz_2, xz_3, xz_4, xz_5, xz_6, xz_7, xz_8, xz_10, xz_13, xz_19, xz_25, xz_26, xz_31, xz_37, xz_43, xz_44, xz_56, xz_92, xy_0, xy_1, xy_2, xy_3, xy_4, xy_5, xy_6, xy_7, xy_8, xy_10, xy_13, xy_19, xy_25, xy_26, xy_31, xy_37, xy_43, xy_44, xy_56, xy_92, xi_add, xi_in, xi_cl, xi_le, xi_lt, xi_eq, xi_m1, xi_lt0, xi_ge0, xa_0, xle_0, xg_0, xq_0, ms_0, ms_73, u0, q1, q2, v1, v5, vq, z]
      obtain ⟨cc, H, ⟨wd, kd, nm⟩, ⟨ri, ti, ei⟩, ⟨nr', n', ne'⟩, ⟨D', W'⟩, cd, ct, et⟩ := F
      have kc : ClS (37 - h) H wd ri ti ei nr' n' ne' D' W' ct et I1 L1 := kc
      refine xc_mono (xc_deeper (d' := d + 59) (by omega) (c_begin (d := d) hR2 hh' (q := 73) (by decide) kp.2.1 kc.1)) ?_
      rintro _ _ ⟨rfl, I2, rfl, b1, b2⟩
      simp (disch := omega) only [gX11_house_13, xi_iconst, xi_getf, xi_putf, xw_v2, xw_if, xw_iret, xl_aload_0, xl_aload_2, xl_astore_2, xl_bload_0, xl_bload_2, xl_iload_1, xl_istore_1, dm_gf, dm_isRef, dm_pf, xb_10_12, xb_10_9, xb_4_3, xb_6_2, xk_i0, xt_10_1, xt_10_12, xt_10_2, xt_10_9, xt_4_3, xt_6_2, xv_10_0, xv_10_1, xv_10_13, xv_10_2, xv_10_3, xv_10_5, reduceIte, Nat.reduceBEq, Bool.false_eq_true, Bool.true_eq_false, if_true, if_false, Bool.not_true, Bool.not_false, Bool.and_true, Bool.and_false, Bool.true_and, Bool.false_and, xwm_some, xwm_none, xwm_ite, kl_I, kl_R, kl_X, kl_N, kl_L, dm_cmp, decide_eq_true_eq, decide_true, decide_false, xfI, xfB0, xfB1, xfBi, ite_self, xf00, xf10, xf11, Bool.or_true, Bool.true_or, Bool.or_false, Bool.false_or, Int.reduceToNat, true_and, and_true, and_self, false_and, and_false, not_false_eq_true, not_true_eq_false, ite_not, xwt_def, xg_cI, xg_cL, xg_cR, xg_cX, xg_cN, List.map_cons, List.map_nil, List.sum_cons, List.sum_nil, Nat.reduceAdd, Nat.reduceMul, Nat.reduceLeDiff, Option.toList, List.cons_append, List.nil_append, List.append_nil, dm_rcvR, dm_rcvX, mkI, mkL, mkR, mkS, mk_I, mk_L, mk_R, xd10, xd2, xd3, xd4, ite_T, ite_F, xz_0, xz_1, xz_2, xz_3, xz_4, xz_5, xz_6, xz_7, xz_8, xz_10, xz_13, xz_19, xz_25, xz_26, xz_31, xz_37, xz_43, xz_44, xz_56, xz_92, xy_0, xy_1, xy_2, xy_3, xy_4, xy_5, xy_6, xy_7, xy_8, xy_10, xy_13, xy_19, xy_25, xy_26, xy_31, xy_37, xy_43, xy_44, xy_56, xy_92, xi_add, xi_in, xi_cl, xi_le, xi_lt, xi_eq, xi_m1, xi_lt0, xi_ge0, xa_0, xle_0, xg_0, xq_0, ms_0, ms_90, mm0, v3, v13]
      have w1 : ∀ p, ¬ p = 0 → ¬ p = mo → ¬ p = 90 → dm_up (dm_up (dm_up (dm_up I2 mo 3 0) 90 2 0) 0 9 0) 0 12 0 p = I2 p := fun p h1 h2 h3 => by rw [dm_upp h1, dm_upp h1, dm_upp h3, dm_upp h2]
      have w2 : ∀ p, ¬ p = 0 → ¬ p = mo → ¬ p = 90 → ¬ (73 ≤ p ∧ p < 80) → dm_up (dm_up (dm_up (dm_up I2 mo 3 0) 90 2 0) 0 9 0) 0 12 0 p = I1 p := fun p h1 h2 h3 h4 => (w1 p h1 h2 h3).trans (b2 p (by omega))
      have e0 : I2 0 = I 0 := (b2 0 (by omega)).trans (k2.1 0 (by omega) (by omega))
      refine hQ _ _ _ ⟨hR2, ⟨?_, ?_⟩, ?_, k2.2.2.1, hF, fun y => absurd z y, fun _ => ⟨fun p h1 h2 h3 h4 h5 h6 => ?_, ⟨?_, ?_, ?_, ?_, ?_⟩, ⟨v1, ?_, v3, ?_⟩, ?_, kp, ?_⟩⟩
      · rw [w2 (37 - h + 23) (by omega) (by omega) (by omega) (by omega)]; exact k2.2.1.1
      · rw [w2 (37 - h + 27) (by omega) (by omega) (by omega) (by omega)]; exact k2.2.1.2
      · rw [w2 1 (by omega) (by omega) (by omega) (by omega)]; exact k3
      · rw [w2 p h1 h5 h6 h4]; exact k2.1 p h2 h3
      · rw [dm_upi (by decide), dm_upi (by decide), dm_upp (by omega), dm_upp (by omega), e0]
      · rw [dm_upi (by decide), dm_upe]
      · rw [dm_upe]
      · rw [dm_upp (by omega), dm_upp (by omega), dm_upp (by omega), dm_upe]
      · rw [dm_upp (by omega), dm_upp (by omega), dm_upe]
      · rw [dm_upi (by decide), dm_upe]
      · rw [dm_upi (by decide), dm_upi (by decide)]; exact q4
      · exact ⟨kc.1.fr (fun p h1 h2 => w2 p (by omega) (by omega) (by omega) (by omega)), kc.2.1, kc.2.2.fr (fun p h1 h2 => w2 p (by omega) (by omega) (by omega) (by omega)) (by rw [w2 (37 - h) (by omega) (by omega) (by omega) (by omega)]) (by rw [w2 (37 - h) (by omega) (by omega) (by omega) (by omega)])⟩
      · exact b1.fr (fun p h1 h2 => w1 p (by omega) (by omega) (by omega))
    · simp (disch := omega) only [gX11_house_13, xi_iconst, xi_getf, xi_putf, xw_v2, xw_if, xw_iret, xl_aload_0, xl_aload_2, xl_astore_2, xl_bload_0, xl_bload_2, xl_iload_1, xl_istore_1, dm_gf, dm_isRef, dm_pf, xb_10_12, xb_10_9, xb_4_3, xb_6_2, xk_i0, xt_10_1, xt_10_12, xt_10_2, xt_10_9, xt_4_3, xt_6_2, xv_10_0, xv_10_1, xv_10_13, xv_10_2, xv_10_3, xv_10_5, reduceIte, Nat.reduceBEq, Bool.false_eq_true, Bool.true_eq_false, if_true, if_false, Bool.not_true, Bool.not_false, Bool.and_true, Bool.and_false, Bool.true_and, Bool.false_and, xwm_some, xwm_none, xwm_ite, kl_I, kl_R, kl_X, kl_N, kl_L, dm_cmp, decide_eq_true_eq, decide_true, decide_false, xfI, xfB0, xfB1, xfBi, ite_self, xf00, xf10, xf11, Bool.or_true, Bool.true_or, Bool.or_false, Bool.false_or, Int.reduceToNat, true_and, and_true, and_self, false_and, and_false, not_false_eq_true, not_true_eq_false, ite_not, xwt_def, xg_cI, xg_cL, xg_cR, xg_cX, xg_cN, List.map_cons, List.map_nil, List.sum_cons, List.sum_nil, Nat.reduceAdd, Nat.reduceMul, Nat.reduceLeDiff, Option.toList, List.cons_append, List.nil_append, List.append_nil, dm_rcvR, dm_rcvX, mkI, mkL, mkR, mkS, mk_I, mk_L, mk_R, xd10, xd2, xd3, xd4, ite_T, ite_F, xz_0, xz_1, xz_2, xz_3, xz_4, xz_5, xz_6, xz_7, xz_8, xz_10, xz_13, xz_19, xz_25, xz_26, xz_31, xz_37, xz_43, xz_44, xz_56, xz_92, xy_0, xy_1, xy_2, xy_3, xy_4, xy_5, xy_6, xy_7, xy_8, xy_10, xy_13, xy_19, xy_25, xy_26, xy_31, xy_37, xy_43, xy_44, xy_56, xy_92, xi_add, xi_in, xi_cl, xi_le, xi_lt, xi_eq, xi_m1, xi_lt0, xi_ge0, xa_0, xle_0, xg_0, xq_0, dm_upe, dm_upi, dm_upp, ms_0, z]
      exact hQ _ _ _ ⟨k1, k2.2.1, k3, k2.2.2.1, hF, fun _ => ⟨k2.1, fun i => by rw [q0]⟩, fun y => absurd y z⟩
  obtain ⟨I1, L1, R1, ⟨k1, k2, k3, k4, hF, k5, k6⟩, hc⟩ := xc_Rq cl
  have hi : ∀ p, 264 ≤ p → I1 p = I p := fun p hp => by
    by_cases z : (hMo cs sz 1001 ((0, 0), hd00)).1.2 = 0
    · exact (k6 z).1 p (by omega) (by omega) (by omega) (by omega) (by omega) (by omega)
    · exact (k5 z).1 p (by omega) (by omega)
  have ml := m_house (S := S) (d := d + 18) (g := g) (I := I1) (L := L1) (R := R1) k1 (cs := cs) (sz := sz) hs (by rw [hi 264 (by omega)]; exact t2) (by rw [hi 265 (by omega)]; exact t3) (by rw [k4 269 (by omega) (by omega)]; exact hCo.2.2)
  obtain ⟨I2, L2, R2, ⟨m1, m2, m3, m4⟩, hm⟩ := xc_Rq ml
  subst m1
  refine ⟨_, _, _, hc, hm, ?_⟩
  generalize (hMo cs sz 1001 ((0, 0), hd00)) = F at *
  by_cases z : F.1.2 = 0
  · obtain ⟨a1, ⟨a2, a3, a4, a5, a6⟩, ⟨b1, b2, b3, b4⟩, cx, ph, bg⟩ := k6 z
    obtain ⟨hx, ⟨c1, c2, c3, c4, c5⟩, c6, c7⟩ := m4 z
    obtain ⟨cc, H, ⟨wd, kd, nm⟩, ⟨ri, ti, ei⟩, ⟨nr', n', ne'⟩, ⟨D', W'⟩, cd, ct, et⟩ := F
    have cs' : ClS (37 - h) H wd ri ti ei nr' n' ne' D' W' ct et I1 L1 := cx
    have bg : CP I1 73 (H 3) (startB H n') := bg
    obtain ⟨pn, wf, lv, fD, fW, hcd⟩ := ph
    obtain ⟨x1, x2, x3, x4, x5, x6, x7⟩ := hx
    have h6' : nr' ≤ 6 ∧ n' ≤ 6 ∧ ne' ≤ 6 := ⟨wf.1.2.2.2.1, wf.1.2.2.2.2.1, wf.1.2.2.2.2.2⟩
    have lo : ∀ p, p < 264 → I2 p = I1 p := c6
    have hp2 : HP I2 (37 - h) H nr' n' ne' := cs'.1.fr (fun p h1 h2 => lo p (by omega))
    have tl2 := cs'.2.2.fr (I' := I2) (fun p h1 h2 => lo p (by omega)) (by rw [lo (37 - h) (by omega)]) (by rw [lo (37 - h) (by omega)])
    have sB : startB (I2 270) n' = startB H n' := startB_c x1
    rw [sB] at x7
    have e3 : I2 270 3 = H 3 := x1 3 (by decide)
    have eqB : EqB (startB H n') (I2 280) := fun i hi => by have := x7 i hi; rw [Nat.zero_add] at this; exact this.symm
    refine Or.inl ⟨37 - h, mo, nr', n', ne', D', W', I2, L2, R2, rfl, k1, ⟨⟨hh', b1, by rw [show 37 - (37 - h) = h by omega]; exact b2⟩, wf.row x1, ⟨hp2.row h6' x1, CFm_of tl2.1 fD, CFm_of tl2.2.1 fW⟩, ?_, ?_, ?_, ?_, c4, nm, ?_, x2, ?_⟩, ⟨⟨hmo, b3, b4⟩, ?_⟩, ⟨?_, ?_⟩, ?_, ?_, ?_, TAP.no ?_ m2, ?_⟩
    · rw [x1 6 (by decide)]; exact RFm_of x4 fD x6
    · rw [x1 7 (by decide)]; exact RFm_of x5 fW x6
    · exact fun c b q1 q2 q3 => CDs_lim x4 x6 c b q1 q2 (by rw [← x1 6 (by decide)]; exact q3)
    · exact fun c b q1 q2 q3 => CDs_lim x5 x6 c b q1 q2 (by rw [← x1 7 (by decide)]; exact q3)
    · have := pn.1; omega
    · exact NMs_of pn (cs'.2.1.fr (c7 _ (by omega) (by omega) (by omega)) (c7 _ (by omega) (by omega) (by omega)) (c7 _ (by omega) (by omega) (by omega))) x3
    · exact ⟨0, by decide, by rw [lo mo (by omega)]; exact a5, c2, fun l hl => absurd hl (Nat.not_lt_zero l)⟩
    · exact ((start_w wf).eqv eqB).K (Nat.zero_le _)
    · rw [e3]
      exact (bg.fr (fun p h1 h2 => lo p (by omega))).eq eqB
    · exact ⟨0, by decide, by rw [lo 90 (by omega)]; exact a6, c1, fun i hi => absurd hi (Nat.not_lt_zero i)⟩
    · exact ⟨0, nx, by decide, u2, by rw [lo 0 (by omega), a2]; exact u3, by rw [lo 0 (by omega)]; exact a3, c3, fun k hk => absurd hk (Nat.not_lt_zero k)⟩
    · have nb : ∀ m, m < 4 → mkB I2 m = false := fun m hm => by unfold mkB; rw [c5 m hm]; decide
      refine ⟨?_, fun m hm => ⟨Or.inl (c5 m hm), fun y => ?_⟩⟩
      · rw [lo 0 (by omega), a4, nb 0 (by decide), nb 1 (by decide), nb 2 (by decide), nb 3 (by decide)]; decide
      · rw [c5 m hm] at y; exact absurd y (by decide)
    · rw [lo 1 (by omega)]; exact k3
    · have f2 : ∀ p, ¬ p = 0 → ¬ p = 1 → ¬ (37 - h ≤ p ∧ p < 37 - h + 31) → ¬ (73 ≤ p ∧ p < 80) → ¬ p = mo → ¬ p = 90 → p < 264 → I2 p = I p := fun p g1 g2 g3 g4 g5 g6 g7 => (lo p g7).trans (a1 p g1 g2 g3 g4 g5 g6)
      refine ⟨?_, ?_, ?_⟩
      · rw [f2 96 (by omega) (by omega) (by omega) (by omega) (by omega) (by omega) (by omega), f2 97 (by omega) (by omega) (by omega) (by omega) (by omega) (by omega) (by omega), f2 98 (by omega) (by omega) (by omega) (by omega) (by omega) (by omega) (by omega)]; exact hCo.1
      · have o1 : I2 (37 - h + 23) 0 = I (37 - h + 23) 0 := by rw [lo _ (by omega)]; exact k2.1
        have o2 : I2 (37 - h + 27) 0 = I (37 - h + 27) 0 := by rw [lo _ (by omega)]; exact k2.2
        have kk := hCo.2.1
        rcases hl2 with rfl | rfl
        · rw [f2 26 (by omega) (by omega) (by omega) (by omega) (by omega) (by omega) (by omega), f2 30 (by omega) (by omega) (by omega) (by omega) (by omega) (by omega) (by omega), o1, o2]; exact kk
        · rw [f2 57 (by omega) (by omega) (by omega) (by omega) (by omega) (by omega) (by omega), f2 61 (by omega) (by omega) (by omega) (by omega) (by omega) (by omega) (by omega), o1, o2]; exact kk
      · rw [c7 269 (by decide) (by decide) (by decide), k4 269 (by omega) (by omega)]; exact hCo.2.2
  · obtain ⟨a1, a2⟩ := k5 z
    obtain ⟨b1, b2, b3, b4, b5⟩ := m3 z
    refine Or.inr ⟨br, h, mo, nr, n, ne, D, W, I2, L2, R2, rfl, n0, (r.dft (fun p g1 g2 g3 g4 g5 g6 g7 g8 g9 => ?_) ⟨?_, ?_⟩ (fun i g0 g1 g2 g3 g4 g5 g6 g7 g8 => ?_) (fun i hi2 => ?_) (fun j hj => ?_) (fun p g1 g2 g3 g4 => ?_) k1 a2 (TAP.no ?_ m2)).K (by omega)⟩
    · rw [b1 p g3 g4 g5 g6 g7 g8 g9, a1 p g1 g2]
    · rw [b1 _ (by omega) (by omega) (by omega) (by omega) (by omega) (by omega) (by omega)]; exact k2.1
    · rw [b1 _ (by omega) (by omega) (by omega) (by omega) (by omega) (by omega) (by omega)]; exact k2.2
    · rw [b2 i g0 g1 g2 g3 g4 g5 g6 g7 g8, hi 264 (by omega)]
    · rw [b3 i hi2, hi 270 (by omega)]
    · rw [(b4 j hj).1, (b4 j hj).2, hi 271 (by omega), hi 272 (by omega)]; exact ⟨rfl, rfl⟩
    · rw [b5 p g3 g4, k4 p g1 g2]
    · rw [b1 1 (by decide) (by decide) (by decide) (by decide) (by decide) (by decide) (by decide)]; exact k3

