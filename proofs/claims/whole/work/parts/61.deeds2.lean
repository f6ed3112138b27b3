/-! The class: deeds, copies, beginnings by the pictures. -/
theorem fr_code {v calm : Int32} {c : Nat} (hc : c ≤ 100000) : (if 1 + nI c ≤ 0 then 0 else (if 0 < v - calm then v - calm else 0) / (1 + nI c)) = (if 0 ≤ v - calm then (v - calm) / (1 + nI c) else 0) := by
  have h1 : ¬ (1 + nI c ≤ 0) := by rw [xp_1, xle_0 (by omega)]; omega
  rw [if_neg h1]
  by_cases h : 0 < v - calm
  · rw [if_pos h, if_pos (Int32.le_of_lt h)]
  · rw [if_neg h]
    by_cases h2 : 0 ≤ v - calm
    · rw [if_pos h2, Int32.le_antisymm h2 (Int32.not_lt.mp h)]
    · rw [if_neg h2, Int32.zero_div]
theorem c_climbC {S : dm_Sc} {d : Nat} {g : Nat × Nat} {I : Nat → Nat → Int32} {L : Nat → Nat → Int64} {R : Nat → Nat → Value} (hR : LR R) {h q nr n ne K : Nat} {H B : Nat → Int32} {br : Int32} (hh : h ∈ ly_Ho) (hq : q ∈ ly_St) (w : WFH H nr n ne) (hp : HP I h H nr n ne) (wb : WFB nr n K B) (c : CP I q br B) {j : Nat} (hj : j < 6) (hi : ¬ B (1 + j) = -1) : xc S (d + 4) 69 [.ref q, .ref h, .int (nI j)] (Mk g I L R) (Ri 1 g L R (fun I' => CP I' q br (climbB H B j) ∧ FrS q I I')) := by
  obtain ⟨hjn, r, hr, er⟩ := (wb.1 j hj).resolve_left hi
  have h6 := w.1.2.2.2.1
  have t := hp.2.2.1 j hjn
  have x := hp.2.1 r hr
  refine (c_doClimb (σ := Mk g I L R) hR.lay hh hq w.1.2.2.2.2.1 hp.1.2.1 hjn ((c.2.1 j hj).trans er) h6 hp.1.1 hr).mpr ⟨rfl, _, rfl, ?_, (FrS.refl q I).up (by decide)⟩
  unfold climbB
  rw [er, xi_cl (by omega), mkI, c.2.2.1 j hj, t.1, x.1]
  exact c.up2 hj
theorem c_frightC {S : dm_Sc} {d : Nat} {g : Nat × Nat} {I : Nat → Nat → Int32} {L : Nat → Nat → Int64} {R : Nat → Nat → Value} (hR : LR R) {h q nr n ne K : Nat} {H B : Nat → Int32} {br : Int32} (hh : h ∈ ly_Ho) (hq : q ∈ ly_St) (w : WFH H nr n ne) (hp : HP I h H nr n ne) (wb : WFB nr n K B) (c : CP I q br B) (hK : K ≤ 100000) {j : Nat} (hj : j < 6) (hi : ¬ B (1 + j) = -1) (v : Int32) : xc S (d + 3) 70 [.ref q, .ref h, .int (nI j), .int v] (Mk g I L R) (Ri 1 g L R (fun I' => CP I' q br (frightB H B j v) ∧ FrS q I I')) := by
  obtain ⟨hjn, r, hr, er⟩ := (wb.1 j hj).resolve_left hi
  have t := hp.2.2.1 j hjn
  have hw := hab_ne wb hK hj
  obtain ⟨cc, hcc, ecc⟩ := (wb.2.2.2 j hj).2.1
  have q4 := c.2.2.2.2.1 j hj
  refine (c_doFright (σ := Mk g I L R) hR.lay hh hq w.1.2.2.2.2.1 hp.1.2.1 hjn (by rw [mkI, c.2.1 j hj]; exact hi) v (by rw [mkI, q4]; exact hw)).mpr ⟨rfl, _, rfl, ?_, ((FrS.refl q I).up (by decide)).up (by decide)⟩
  have e := fr_code (v := v) (calm := H (26 + 5 * j + 2)) (c := cc) (by omega)
  unfold frightB frV
  rw [mkI, c.2.2.1 j hj, q4, t.2.2.1, ecc, e]
  exact (c.up2 hj).up4 hj
theorem c_drinkC {S : dm_Sc} {d : Nat} {g : Nat × Nat} {I : Nat → Nat → Int32} {L : Nat → Nat → Int64} {R : Nat → Nat → Value} (hR : LR R) {h q nr n ne K : Nat} {H B : Nat → Int32} {br : Int32} (hh : h ∈ ly_Ho) (hq : q ∈ ly_St) (w : WFH H nr n ne) (hp : HP I h H nr n ne) (wb : WFB nr n K B) (c : CP I q br B) {j : Nat} (hj : j < 6) (hi : ¬ B (1 + j) = -1) : xc S (d + 2) 71 [.ref q, .ref h, .int (nI j)] (Mk g I L R) (Ri 1 g L R (fun I' => CP I' q br (upd B (19 + j) (H 4)) ∧ FrS q I I')) := by
  refine (c_doDrink (σ := Mk g I L R) hR.lay hh hq hj (by rw [mkI, c.2.1 j hj]; exact hi)).mpr ⟨rfl, _, rfl, ?_, (FrS.refl q I).up (by decide)⟩
  rw [mkI, hp.1.2.2.2.2.1]
  exact c.up3 hj
theorem c_climbC_no {S : dm_Sc} {d : Nat} {g : Nat × Nat} {I : Nat → Nat → Int32} {L : Nat → Nat → Int64} {R : Nat → Nat → Value} {Q : Option Value → dm_St → Prop} (hR : LR R) {h q : Nat} {B : Nat → Int32} {br : Int32} (hq : q ∈ ly_St) (c : CP I q br B) {j : Nat} (hj : j < 6) (hi : B (1 + j) = -1) : xc S (d + 2) 69 [.ref q, .ref h, .int (nI j)] (Mk g I L R) Q ↔ Q (some (.int 0)) (Mk g I L R) := c_doClimb_no (σ := Mk g I L R) hR.lay hq hj (by rw [mkI, c.2.1 j hj]; exact hi)
theorem c_frightC_no {S : dm_Sc} {d : Nat} {g : Nat × Nat} {I : Nat → Nat → Int32} {L : Nat → Nat → Int64} {R : Nat → Nat → Value} {Q : Option Value → dm_St → Prop} (hR : LR R) {h q : Nat} {B : Nat → Int32} {br : Int32} (hq : q ∈ ly_St) (c : CP I q br B) {j : Nat} (hj : j < 6) (hi : B (1 + j) = -1) (v : Int32) : xc S (d + 2) 70 [.ref q, .ref h, .int (nI j), .int v] (Mk g I L R) Q ↔ Q (some (.int 0)) (Mk g I L R) := c_doFright_no (σ := Mk g I L R) hR.lay hq hj (by rw [mkI, c.2.1 j hj]; exact hi) v
theorem c_drinkC_no {S : dm_Sc} {d : Nat} {g : Nat × Nat} {I : Nat → Nat → Int32} {L : Nat → Nat → Int64} {R : Nat → Nat → Value} {Q : Option Value → dm_St → Prop} (hR : LR R) {h q : Nat} {B : Nat → Int32} {br : Int32} (hq : q ∈ ly_St) (c : CP I q br B) {j : Nat} (hj : j < 6) (hi : B (1 + j) = -1) : xc S (d + 2) 71 [.ref q, .ref h, .int (nI j)] (Mk g I L R) Q ↔ Q (some (.int 0)) (Mk g I L R) := c_doDrink_no (σ := Mk g I L R) hR.lay hq hj (by rw [mkI, c.2.1 j hj]; exact hi)
theorem cpy6 (f h : Nat → Int32) {t : Nat} (ht : t < 6) : va_cpy f h 0 0 6 t = f t := by
  rw [va_cpy, if_pos (by omega)]; congr 1; omega
theorem ly_SS : ∀ p ∈ ly_St, ∀ q ∈ ly_St, p = q ∨ p + 7 ≤ q ∨ q + 7 ≤ p := by decide
theorem x06 : ((0 : Int32) ≤ 6) = True := by decide
theorem x00 : ((0 : Int32) ≤ 0) = True := by decide
theorem c_copyFrom {S : dm_Sc} {d : Nat} {g : Nat × Nat} {I : Nat → Nat → Int32} {L : Nat → Nat → Int64} {R : Nat → Nat → Value} (hR : LR R) {p q : Nat} {B : Nat → Int32} {br : Int32} (hp : p ∈ ly_St) (hq : q ∈ ly_St) (hne : ¬ p = q) (c : CP I p br B) : xc S (d + 1) 60 [.ref q, .ref p] (Mk g I L R) (Rn g L R (fun I' => CP I' q br B ∧ FrS q I I')) := by
  obtain ⟨s0, r3, r4, r5, r6, r7, r8, a1, a2, a3, a4, a5, a6⟩ := St_of hR hq
  obtain ⟨s0_, r3_, r4_, r5_, r6_, r7_, r8_, a1_, a2_, a3_, a4_, a5_, a6_⟩ := St_of hR hp
  have ha := (ly_SS p hp q hq).resolve_left hne
  rw [iv_X7_copyFrom]
  simp (disch := omega) only [kX7_copyFrom_114, kX7_copyFrom_0, xi_iconst, xi_bipush, xi_getf, xi_putf, xw_ret, xw_cpy, xl_aload_0, xl_aload_1, xl_bload_0, xl_bload_1, dm_gf, dm_isRef, dm_pf, xb_7_0, xb_7_1, xb_7_2, xk_b6, xk_i0, xt_7_0, xt_7_1, xt_7_2, xv_7_0, xv_7_1, xv_7_2, xv_7_3, xv_7_4, xv_7_5, xv_7_6, xv_7_7, xv_7_8, reduceIte, Nat.reduceBEq, Bool.false_eq_true, Bool.true_eq_false, if_true, if_false, Bool.not_true, Bool.not_false, Bool.and_true, Bool.and_false, Bool.true_and, Bool.false_and, xwm_some, xwm_none, xwm_ite, kl_I, kl_R, kl_X, kl_N, kl_L, dm_cmp, decide_eq_true_eq, decide_true, decide_false, xfI, xfB0, xfB1, xfBi, ite_self, xf00, xf10, xf11, Bool.or_true, Bool.true_or, Bool.or_false, Bool.false_or, Int.reduceToNat, true_and, and_true, and_self, false_and, and_false, not_false_eq_true, not_true_eq_false, ite_not, xwt_def, xg_cI, xg_cL, xg_cR, xg_cX, xg_cN, List.map_cons, List.map_nil, List.sum_cons, List.sum_nil, Nat.reduceAdd, Nat.reduceMul, Nat.reduceLeDiff, Option.toList, List.cons_append, List.nil_append, List.append_nil, dm_rcvR, dm_rcvX, mkI, mkL, mkR, mkS, mk_I, mk_L, mk_R, xd10, xd2, xd3, xd4, ite_T, ite_F, xz_0, xz_1, xz_2, xz_3, xz_4, xz_5, xz_6, xz_7, xz_8, xz_10, xz_13, xz_19, xz_25, xz_26, xz_31, xz_37, xz_43, xz_44, xz_56, xz_92, xy_0, xy_1, xy_2, xy_3, xy_4, xy_5, xy_6, xy_7, xy_8, xy_10, xy_13, xy_19, xy_25, xy_26, xy_31, xy_37, xy_43, xy_44, xy_56, xy_92, xi_add, xi_in, xi_cl, xi_le, xi_lt, xi_eq, xi_m1, xi_lt0, xi_ge0, xa_0, xle_0, xg_0, xq_0, xa_6, xp_6, xu_6, xl_6, xg_6, xle_6, xge_6, xq_6, xs_6, dm_upe, dm_upi, dm_upp, s0, r3, r4, r5, r6, r7, r8, a1, a2, a3, a4, a5, a6, s0_, r3_, r4_, r5_, r6_, r7_, r8_, a1_, a2_, a3_, a4_, a5_, a6_, dm_acopy, x06, x00, dm_rowp, dm_rowe]
  refine ⟨rfl, _, rfl, ?_, fun r hr => by rw [dm_rowp (by omega), dm_rowp (by omega), dm_rowp (by omega), dm_rowp (by omega), dm_rowp (by omega), dm_rowp (by omega), dm_upp (by omega), dm_upp (by omega), dm_upp (by omega)]⟩
  refine ⟨⟨?_, ?_, ?_⟩, fun t ht => ?_, fun t ht => ?_, fun t ht => ?_, fun t ht => ?_, fun t ht => ?_, fun t ht => ?_⟩
  · rw [dm_rowp (by omega), dm_rowp (by omega), dm_rowp (by omega), dm_rowp (by omega), dm_rowp (by omega), dm_rowp (by omega), dm_upi (by decide), dm_upi (by decide), dm_upe]; exact c.1.1
  · rw [dm_rowp (by omega), dm_rowp (by omega), dm_rowp (by omega), dm_rowp (by omega), dm_rowp (by omega), dm_rowp (by omega), dm_upi (by decide), dm_upe]; exact c.1.2.1
  · rw [dm_rowp (by omega), dm_rowp (by omega), dm_rowp (by omega), dm_rowp (by omega), dm_rowp (by omega), dm_rowp (by omega), dm_upe]; exact c.1.2.2
  · rw [dm_rowp (by omega), dm_rowp (by omega), dm_rowp (by omega), dm_rowp (by omega), dm_rowp (by omega), dm_rowe, cpy6 _ _ ht]; exact c.2.1 t ht
  · rw [dm_rowp (by omega), dm_rowp (by omega), dm_rowp (by omega), dm_rowp (by omega), dm_rowe, cpy6 _ _ ht]; exact c.2.2.1 t ht
  · rw [dm_rowp (by omega), dm_rowp (by omega), dm_rowp (by omega), dm_rowe, cpy6 _ _ ht]; exact c.2.2.2.1 t ht
  · rw [dm_rowp (by omega), dm_rowp (by omega), dm_rowe, cpy6 _ _ ht]; exact c.2.2.2.2.1 t ht
  · rw [dm_rowp (by omega), dm_rowe, cpy6 _ _ ht]; exact c.2.2.2.2.2.1 t ht
  · rw [dm_rowe, cpy6 _ _ ht]; exact c.2.2.2.2.2.2 t ht
theorem st_at (H : Nat → Int32) (n : Nat) : ∀ k, k ≤ 6 → ∀ i, itB (stS H n) k (fun _ => 0) i = if 1 ≤ i ∧ i < 1 + k then (if i - 1 < n then H (26 + 5 * (i - 1) + 4) else -1) else if 31 ≤ i ∧ i < 31 + k then (if i - 31 < n then H (26 + 5 * (i - 31) + 3) else 0) else 0
  | 0, _, i => by rw [if_neg (by omega), if_neg (by omega)]; rfl
  | k + 1, hk, i => by
    have ih := st_at H n k (by omega) i
    rw [itB_s, stS]
    by_cases h1 : i = 31 + k
    · subst h1; rw [upd_eq]; simp only [show ¬ (1 ≤ 31 + k ∧ 31 + k < 1 + (k + 1)) by omega, show 31 ≤ 31 + k by omega, show 31 + k < 31 + (k + 1) by omega, and_self, if_true, if_false, show 31 + k - 31 = k by omega]
    · rw [upd_ne h1]
      by_cases h2 : i = 1 + k
      · subst h2; rw [upd_eq]; simp only [show 1 ≤ 1 + k by omega, show 1 + k < 1 + (k + 1) by omega, and_self, if_true, show 1 + k - 1 = k by omega]
      · rw [upd_ne h2, ih]
        have e1 : (1 ≤ i ∧ i < 1 + (k + 1)) ↔ (1 ≤ i ∧ i < 1 + k) := by omega
        have e2 : (31 ≤ i ∧ i < 31 + (k + 1)) ↔ (31 ≤ i ∧ i < 31 + k) := by omega
        simp only [e1, e2]
theorem c_begin {S : dm_Sc} {d : Nat} {g : Nat × Nat} {I : Nat → Nat → Int32} {L : Nat → Nat → Int64} {R : Nat → Nat → Value} (hR : LR R) {h q nr n ne : Nat} {H : Nat → Int32} (hh : h ∈ ly_Ho) (hq : q ∈ ly_St) (w : WFH H nr n ne) (hp : HP I h H nr n ne) : xc S (d + 2) 59 [.ref q, .ref h] (Mk g I L R) (Rn g L R (fun I' => CP I' q (H 3) (startB H n) ∧ FrS q I I')) := by
  obtain ⟨s0, r3, r4, r5, r6, r7, r8, a1, a2, a3, a4, a5, a6⟩ := St_of hR hq
  obtain ⟨u0, u1, u2, u3, u4, u5⟩ := Ho_of hR hh
  obtain ⟨hT, hRo, hE⟩ := ly_Ho_in h hh
  obtain ⟨ts0, -⟩ := T7_of hR hT
  obtain ⟨rs0, -⟩ := T3_of hR hRo
  obtain ⟨es0, -⟩ := T3_of hR hE
  have hn : n ≤ 6 := w.1.2.2.2.2.1
  have hlt := (ly_HS h hh q hq).1
  rw [iv_X7_begin]
  simp (disch := omega) only [kX7_begin_119, kX7_begin_112, kX7_begin_111, kX7_begin_89, kX7_begin_88, kX7_begin_0, gX7_begin_55, gX7_begin_73, gX7_begin_85, gX7_begin_96, gX7_begin_108, gX7_begin_116, xi_iconst, xi_bipush, xi_getf, xi_putf, xi_iastore, xw_s2, xw_v2, xw_v3, xw_goto, xw_icmp, xw_if, xw_ret, xl_aload_0, xl_aload_1, xl_bload_0, xl_bload_1, xl_iinc_2, xl_iload_2, xl_iload_3, xl_istore_2, xl_istore_3, dm_ast, dm_at, dm_gf, dm_isRef, dm_pf, xb_7_0, xb_7_1, xb_7_2, xk_b6, xk_i0, xk_i1, xk_i3, xk_i4, xk_im1, xt_7_0, xt_7_1, xt_7_2, xv_2_1, xv_2_5, xv_7_3, xv_7_4, xv_7_5, xv_7_6, xv_7_7, xv_7_8, reduceIte, Nat.reduceBEq, Bool.false_eq_true, Bool.true_eq_false, if_true, if_false, Bool.not_true, Bool.not_false, Bool.and_true, Bool.and_false, Bool.true_and, Bool.false_and, xwm_some, xwm_none, xwm_ite, kl_I, kl_R, kl_X, kl_N, kl_L, dm_cmp, decide_eq_true_eq, decide_true, decide_false, xfI, xfB0, xfB1, xfBi, ite_self, xf00, xf10, xf11, Bool.or_true, Bool.true_or, Bool.or_false, Bool.false_or, Int.reduceToNat, true_and, and_true, and_self, false_and, and_false, not_false_eq_true, not_true_eq_false, ite_not, xwt_def, xg_cI, xg_cL, xg_cR, xg_cX, xg_cN, List.map_cons, List.map_nil, List.sum_cons, List.sum_nil, Nat.reduceAdd, Nat.reduceMul, Nat.reduceLeDiff, Option.toList, List.cons_append, List.nil_append, List.append_nil, dm_rcvR, dm_rcvX, mkI, mkL, mkR, mkS, mk_I, mk_L, mk_R, xd10, xd2, xd3, xd4, ite_T, ite_F, xz_0, xz_1, xz_2, xz_3, xz_4, xz_5, xz_6, xz_7, xz_8, xz_10, xz_13, xz_19, xz_25, xz_26, xz_31, xz_37, xz_43, xz_44, xz_56, xz_92, xy_0, xy_1, xy_2, xy_3, xy_4, xy_5, xy_6, xy_7, xy_8, xy_10, xy_13, xy_19, xy_25, xy_26, xy_31, xy_37, xy_43, xy_44, xy_56, xy_92, xi_add, xi_in, xi_cl, xi_le, xi_lt, xi_eq, xi_m1, xi_lt0, xi_ge0, xa_0, xle_0, xg_0, xq_0, xa_1, xp_1, xu_1, xl_1, xg_1, xle_1, xge_1, xq_1, xs_1, xa_3, xp_3, xu_3, xl_3, xg_3, xle_3, xge_3, xq_3, xs_3, xa_4, xp_4, xu_4, xl_4, xg_4, xle_4, xge_4, xq_4, xs_4, xa_6, xp_6, xu_6, xl_6, xg_6, xle_6, xge_6, xq_6, xs_6, dm_upe, dm_upi, dm_upp, s0, r3, r4, r5, r6, r7, r8, a1, a2, a3, a4, a5, a6, u0, u1, u2, u3, u4, u5, ts0, rs0, es0, c_fill a2 (by decide), c_fill a3 (by decide), c_fill a4 (by decide), c_fill a5 (by decide), hp.1.2.2.2.1]
  refine xw_loop (inv := fun j vs σ => ∃ (x3 : Value) (I2 : Nat → Nat → Int32), vs = [.ref q, .ref h, .int (nI j), x3] ∧ σ = Mk g I2 L R ∧ FrS q I I2 ∧ (I2 q 0 = 0 ∧ I2 q 1 = 0 ∧ I2 q 2 = H 3) ∧ (∀ t, t < 6 → I2 (q + 2) t = 0 ∧ I2 (q + 3) t = 0 ∧ I2 (q + 4) t = 0 ∧ I2 (q + 5) t = 0) ∧ ∀ t, t < j → I2 (q + 1) t = (if t < n then H (26 + 5 * t + 4) else -1) ∧ I2 (q + 6) t = (if t < n then H (26 + 5 * t + 3) else 0)) 6 ?_ ?_ 6 0 _ _ (by omega) ⟨_, _, rfl, rfl, ?_, ?_, ?_, fun t ht => absurd ht (Nat.not_lt_zero t)⟩
  · rintro j vs σ hj ⟨x3, I2, rfl, rfl, hf, h0, hz, hw⟩ ih
    have hp2 := hp.S hh hq hf
    have hN2 := hp2.1.2.1
    unfold kX7_begin_52
    by_cases hjn : j < n
    · have t4 := fun Q => cf_ten_4 (S := S) (d := d) (g := g) (L := L) (Q := Q) hR hh w hp2 hjn
      have hp3 : HP (dm_up I2 (q + 1) j (H (26 + 5 * j + 4))) h H nr n ne := hp2.S hh hq ((FrS.refl q I2).up (by decide))
      have t3 := fun Q => cf_ten_3 (S := S) (d := d) (g := g) (L := L) (Q := Q) hR hh w hp3 hjn
      simp (disch := omega) only [kX7_begin_119, kX7_begin_112, kX7_begin_111, kX7_begin_89, kX7_begin_88, kX7_begin_0, gX7_begin_55, gX7_begin_73, gX7_begin_85, gX7_begin_96, gX7_begin_108, gX7_begin_116, xi_iconst, xi_bipush, xi_getf, xi_putf, xi_iastore, xw_s2, xw_v2, xw_v3, xw_goto, xw_icmp, xw_if, xw_ret, xl_aload_0, xl_aload_1, xl_bload_0, xl_bload_1, xl_iinc_2, xl_iload_2, xl_iload_3, xl_istore_2, xl_istore_3, dm_ast, dm_at, dm_gf, dm_isRef, dm_pf, xb_7_0, xb_7_1, xb_7_2, xk_b6, xk_i0, xk_i1, xk_i3, xk_i4, xk_im1, xt_7_0, xt_7_1, xt_7_2, xv_2_1, xv_2_5, xv_7_3, xv_7_4, xv_7_5, xv_7_6, xv_7_7, xv_7_8, kX8_has_17, kX8_has_16, kX8_has_0, gX8_has_1, gX8_has_9, gX8_has_13, xw_iret, xl_iload_1, xv_8_2, iv_X8_has, reduceIte, Nat.reduceBEq, Bool.false_eq_true, Bool.true_eq_false, if_true, if_false, Bool.not_true, Bool.not_false, Bool.and_true, Bool.and_false, Bool.true_and, Bool.false_and, xwm_some, xwm_none, xwm_ite, kl_I, kl_R, kl_X, kl_N, kl_L, dm_cmp, decide_eq_true_eq, decide_true, decide_false, xfI, xfB0, xfB1, xfBi, ite_self, xf00, xf10, xf11, Bool.or_true, Bool.true_or, Bool.or_false, Bool.false_or, Int.reduceToNat, true_and, and_true, and_self, false_and, and_false, not_false_eq_true, not_true_eq_false, ite_not, xwt_def, xg_cI, xg_cL, xg_cR, xg_cX, xg_cN, List.map_cons, List.map_nil, List.sum_cons, List.sum_nil, Nat.reduceAdd, Nat.reduceMul, Nat.reduceLeDiff, Option.toList, List.cons_append, List.nil_append, List.append_nil, dm_rcvR, dm_rcvX, mkI, mkL, mkR, mkS, mk_I, mk_L, mk_R, xd10, xd2, xd3, xd4, ite_T, ite_F, xz_0, xz_1, xz_2, xz_3, xz_4, xz_5, xz_6, xz_7, xz_8, xz_10, xz_13, xz_19, xz_25, xz_26, xz_31, xz_37, xz_43, xz_44, xz_56, xz_92, xy_0, xy_1, xy_2, xy_3, xy_4, xy_5, xy_6, xy_7, xy_8, xy_10, xy_13, xy_19, xy_25, xy_26, xy_31, xy_37, xy_43, xy_44, xy_56, xy_92, xi_add, xi_in, xi_cl, xi_le, xi_lt, xi_eq, xi_m1, xi_lt0, xi_ge0, xa_0, xle_0, xg_0, xq_0, xa_1, xp_1, xu_1, xl_1, xg_1, xle_1, xge_1, xq_1, xs_1, xa_3, xp_3, xu_3, xl_3, xg_3, xle_3, xge_3, xq_3, xs_3, xa_4, xp_4, xu_4, xl_4, xg_4, xle_4, xge_4, xq_4, xs_4, xa_6, xp_6, xu_6, xl_6, xg_6, xle_6, xge_6, xq_6, xs_6, dm_upe, dm_upi, dm_upp, s0, r3, r4, r5, r6, r7, r8, a1, a2, a3, a4, a5, a6, u0, u1, u2, u3, u4, u5, ts0, rs0, es0, hN2, t4, t3]
      refine ih _ _ ⟨_, _, rfl, rfl, (hf.up (by decide)).up (by decide), ?_, fun t ht => ?_, fun t ht => ?_⟩
      · rw [dm_upp (by omega), dm_upp (by omega)]; exact h0
      · rw [dm_upp (by omega), dm_upp (by omega), dm_upp (by omega), dm_upp (by omega), dm_upp (by omega), dm_upp (by omega), dm_upp (by omega), dm_upp (by omega)]; exact hz t ht
      · by_cases e : t = j
        · subst e; rw [dm_upp (show ¬ q + 1 = q + 6 by omega), dm_upe, dm_upe, if_pos hjn, if_pos hjn]; exact ⟨rfl, rfl⟩
        · rw [dm_upp (show ¬ q + 1 = q + 6 by omega), dm_upi e, dm_upi e, dm_upp (show ¬ q + 6 = q + 1 by omega)]; exact hw t (by omega)
    · simp (disch := omega) only [kX7_begin_119, kX7_begin_112, kX7_begin_111, kX7_begin_89, kX7_begin_88, kX7_begin_0, gX7_begin_55, gX7_begin_73, gX7_begin_85, gX7_begin_96, gX7_begin_108, gX7_begin_116, xi_iconst, xi_bipush, xi_getf, xi_putf, xi_iastore, xw_s2, xw_v2, xw_v3, xw_goto, xw_icmp, xw_if, xw_ret, xl_aload_0, xl_aload_1, xl_bload_0, xl_bload_1, xl_iinc_2, xl_iload_2, xl_iload_3, xl_istore_2, xl_istore_3, dm_ast, dm_at, dm_gf, dm_isRef, dm_pf, xb_7_0, xb_7_1, xb_7_2, xk_b6, xk_i0, xk_i1, xk_i3, xk_i4, xk_im1, xt_7_0, xt_7_1, xt_7_2, xv_2_1, xv_2_5, xv_7_3, xv_7_4, xv_7_5, xv_7_6, xv_7_7, xv_7_8, kX8_has_17, kX8_has_16, kX8_has_0, gX8_has_1, gX8_has_9, gX8_has_13, xw_iret, xl_iload_1, xv_8_2, iv_X8_has, reduceIte, Nat.reduceBEq, Bool.false_eq_true, Bool.true_eq_false, if_true, if_false, Bool.not_true, Bool.not_false, Bool.and_true, Bool.and_false, Bool.true_and, Bool.false_and, xwm_some, xwm_none, xwm_ite, kl_I, kl_R, kl_X, kl_N, kl_L, dm_cmp, decide_eq_true_eq, decide_true, decide_false, xfI, xfB0, xfB1, xfBi, ite_self, xf00, xf10, xf11, Bool.or_true, Bool.true_or, Bool.or_false, Bool.false_or, Int.reduceToNat, true_and, and_true, and_self, false_and, and_false, not_false_eq_true, not_true_eq_false, ite_not, xwt_def, xg_cI, xg_cL, xg_cR, xg_cX, xg_cN, List.map_cons, List.map_nil, List.sum_cons, List.sum_nil, Nat.reduceAdd, Nat.reduceMul, Nat.reduceLeDiff, Option.toList, List.cons_append, List.nil_append, List.append_nil, dm_rcvR, dm_rcvX, mkI, mkL, mkR, mkS, mk_I, mk_L, mk_R, xd10, xd2, xd3, xd4, ite_T, ite_F, xz_0, xz_1, xz_2, xz_3, xz_4, xz_5, xz_6, xz_7, xz_8, xz_10, xz_13, xz_19, xz_25, xz_26, xz_31, xz_37, xz_43, xz_44, xz_56, xz_92, xy_0, xy_1, xy_2, xy_3, xy_4, xy_5, xy_6, xy_7, xy_8, xy_10, xy_13, xy_19, xy_25, xy_26, xy_31, xy_37, xy_43, xy_44, xy_56, xy_92, xi_add, xi_in, xi_cl, xi_le, xi_lt, xi_eq, xi_m1, xi_lt0, xi_ge0, xa_0, xle_0, xg_0, xq_0, xa_1, xp_1, xu_1, xl_1, xg_1, xle_1, xge_1, xq_1, xs_1, xa_3, xp_3, xu_3, xl_3, xg_3, xle_3, xge_3, xq_3, xs_3, xa_4, xp_4, xu_4, xl_4, xg_4, xle_4, xge_4, xq_4, xs_4, xa_6, xp_6, xu_6, xl_6, xg_6, xle_6, xge_6, xq_6, xs_6, dm_upe, dm_upi, dm_upp, s0, r3, r4, r5, r6, r7, r8, a1, a2, a3, a4, a5, a6, u0, u1, u2, u3, u4, u5, ts0, rs0, es0, hN2]
      refine ih _ _ ⟨_, _, rfl, rfl, (hf.up (by decide)).up (by decide), ?_, fun t ht => ?_, fun t ht => ?_⟩
      · rw [dm_upp (by omega), dm_upp (by omega)]; exact h0
      · rw [dm_upp (by omega), dm_upp (by omega), dm_upp (by omega), dm_upp (by omega), dm_upp (by omega), dm_upp (by omega), dm_upp (by omega), dm_upp (by omega)]; exact hz t ht
      · by_cases e : t = j
        · subst e; rw [dm_upp (show ¬ q + 1 = q + 6 by omega), dm_upe, dm_upe, if_neg hjn, if_neg hjn]; exact ⟨rfl, rfl⟩
        · rw [dm_upp (show ¬ q + 1 = q + 6 by omega), dm_upi e, dm_upi e, dm_upp (show ¬ q + 6 = q + 1 by omega)]; exact hw t (by omega)
  · rintro vs σ ⟨x3, I2, rfl, rfl, hf, h0, hz, hw⟩
    unfold kX7_begin_52
    simp (disch := omega) only [kX7_begin_119, kX7_begin_112, kX7_begin_111, kX7_begin_89, kX7_begin_88, kX7_begin_0, gX7_begin_55, gX7_begin_73, gX7_begin_85, gX7_begin_96, gX7_begin_108, gX7_begin_116, xi_iconst, xi_bipush, xi_getf, xi_putf, xi_iastore, xw_s2, xw_v2, xw_v3, xw_goto, xw_icmp, xw_if, xw_ret, xl_aload_0, xl_aload_1, xl_bload_0, xl_bload_1, xl_iinc_2, xl_iload_2, xl_iload_3, xl_istore_2, xl_istore_3, dm_ast, dm_at, dm_gf, dm_isRef, dm_pf, xb_7_0, xb_7_1, xb_7_2, xk_b6, xk_i0, xk_i1, xk_i3, xk_i4, xk_im1, xt_7_0, xt_7_1, xt_7_2, xv_2_1, xv_2_5, xv_7_3, xv_7_4, xv_7_5, xv_7_6, xv_7_7, xv_7_8, reduceIte, Nat.reduceBEq, Bool.false_eq_true, Bool.true_eq_false, if_true, if_false, Bool.not_true, Bool.not_false, Bool.and_true, Bool.and_false, Bool.true_and, Bool.false_and, xwm_some, xwm_none, xwm_ite, kl_I, kl_R, kl_X, kl_N, kl_L, dm_cmp, decide_eq_true_eq, decide_true, decide_false, xfI, xfB0, xfB1, xfBi, ite_self, xf00, xf10, xf11, Bool.or_true, Bool.true_or, Bool.or_false, Bool.false_or, Int.reduceToNat, true_and, and_true, and_self, false_and, and_false, not_false_eq_true, not_true_eq_false, ite_not, xwt_def, xg_cI, xg_cL, xg_cR, xg_cX, xg_cN, List.map_cons, List.map_nil, List.sum_cons, List.sum_nil, Nat.reduceAdd, Nat.reduceMul, Nat.reduceLeDiff, Option.toList, List.cons_append, List.nil_append, List.append_nil, dm_rcvR, dm_rcvX, mkI, mkL, mkR, mkS, mk_I, mk_L, mk_R, xd10, xd2, xd3, xd4, ite_T, ite_F, xz_0, xz_1, xz_2, xz_3, xz_4, xz_5, xz_6, xz_7, xz_8, xz_10, xz_13, xz_19, xz_25, xz_26, xz_31, xz_37, xz_43, xz_44, xz_56, xz_92, xy_0, xy_1, xy_2, xy_3, xy_4, xy_5, xy_6, xy_7, xy_8, xy_10, xy_13, xy_19, xy_25, xy_26, xy_31, xy_37, xy_43, xy_44, xy_56, xy_92, xi_add, xi_in, xi_cl, xi_le, xi_lt, xi_eq, xi_m1, xi_lt0, xi_ge0, xa_0, xle_0, xg_0, xq_0, xa_1, xp_1, xu_1, xl_1, xg_1, xle_1, xge_1, xq_1, xs_1, xa_3, xp_3, xu_3, xl_3, xg_3, xle_3, xge_3, xq_3, xs_3, xa_4, xp_4, xu_4, xl_4, xg_4, xle_4, xge_4, xq_4, xs_4, xa_6, xp_6, xu_6, xl_6, xg_6, xle_6, xge_6, xq_6, xs_6, dm_upe, dm_upi, dm_upp, s0, r3, r4, r5, r6, r7, r8, a1, a2, a3, a4, a5, a6, u0, u1, u2, u3, u4, u5, ts0, rs0, es0]
    refine ⟨rfl, _, rfl, ?_, hf⟩
    have s := st_at H n 6 (Nat.le_refl 6)
    have eg : bB (goB (startB H n)) = 0 := by
      have e : ∀ t, t < 6 → goB (startB H n) t = false := fun t ht => by
        unfold goB startB
        rw [s, if_neg (by omega), if_neg (by omega)]; decide
      unfold bB
      rw [e 0 (by decide), e 1 (by decide), e 2 (by decide), e 3 (by decide), e 4 (by decide), e 5 (by decide)]; decide
    refine ⟨⟨?_, ?_, h0.2.2⟩, fun t ht => ?_, fun t ht => ?_, fun t ht => ?_, fun t ht => ?_, fun t ht => ?_, fun t ht => ?_⟩
    · rw [h0.1]; unfold startB; rw [s, if_neg (by omega), if_neg (by omega)]
    · rw [h0.2.1, eg]
    · rw [(hw t ht).1]; unfold startB; rw [s]; simp only [show 1 ≤ 1 + t by omega, show 1 + t < 1 + 6 by omega, and_self, if_true, show 1 + t - 1 = t by omega]
    · rw [(hz t ht).1]; unfold startB; rw [s, if_neg (by omega), if_neg (by omega)]
    · rw [(hz t ht).2.1]; unfold startB; rw [s, if_neg (by omega), if_neg (by omega)]
    · rw [(hz t ht).2.2.1]; unfold startB; rw [s, if_neg (by omega), if_neg (by omega)]
    · rw [(hz t ht).2.2.2]; unfold startB; rw [s, if_neg (by omega), if_neg (by omega)]
    · rw [(hw t ht).2]; unfold startB; rw [s]; simp only [show ¬ (1 ≤ 31 + t ∧ 31 + t < 1 + 6) by omega, show 31 ≤ 31 + t by omega, show 31 + t < 31 + 6 by omega, and_self, if_true, if_false, show 31 + t - 31 = t by omega]
  · exact fun p hp => by rw [dm_rowp (by omega), dm_rowp (by omega), dm_rowp (by omega), dm_rowp (by omega), dm_upp (by omega), dm_upp (by omega), dm_upp (by omega)]
  · refine ⟨?_, ?_, ?_⟩
    · rw [dm_rowp (by omega), dm_rowp (by omega), dm_rowp (by omega), dm_rowp (by omega), dm_upi (by decide), dm_upi (by decide), dm_upe]
    · rw [dm_rowp (by omega), dm_rowp (by omega), dm_rowp (by omega), dm_rowp (by omega), dm_upi (by decide), dm_upe]
    · rw [dm_rowp (by omega), dm_rowp (by omega), dm_rowp (by omega), dm_rowp (by omega), dm_upe]
  · intro t ht
    refine ⟨?_, ?_, ?_, ?_⟩
    · rw [dm_rowp (by omega), dm_rowp (by omega), dm_rowp (by omega), dm_rowe, filF, if_pos ht]
    · rw [dm_rowp (by omega), dm_rowp (by omega), dm_rowe, filF, if_pos ht]
    · rw [dm_rowp (by omega), dm_rowe, filF, if_pos ht]
    · rw [dm_rowe, filF, if_pos ht]
