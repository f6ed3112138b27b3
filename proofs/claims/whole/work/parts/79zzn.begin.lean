/-! The law from its entry. -/
def dm_e : dm_St := ([], (0, 0), fun _ _ => 0, fun _ _ => 0, fun _ _ => .null)
theorem dm_e0 : dm_push dm_e (.inl 10) = dm_0 := by
  unfold dm_push dm_e dm_0
  have r1 : ∀ {α : Type} (z : α) (p : Nat), dm_row (fun _ _ => z) p (fun _ => z) = fun _ _ => z := fun z p => by
    funext q i
    simp only [dm_row]
    split <;> rfl
  simp only [r1, List.nil_append]
theorem ys_new {S : dm_Sc} {d pc len ix : Nat} {ret : Option FieldType} {code k : List dm_Op} {ls : dm_Lv} {st : List Value} {σ : dm_St} {Q : Option Value → dm_St → Prop} {ci : Int} {tl : List Int} (h : σ.2.1.1 = 0) : Yxw S d ret code ((pc, .new ix, len, ci :: tl) :: k) ls st σ Q ↔ Yxw S d ret code k ls (.ref σ.1.length :: st) (dm_push σ (.inl ci.toNat)) Q := by
  rw [Yxw_sx rfl, show dm_sx S (.new ix) (ci :: tl) ls st σ = some (ls, .ref σ.1.length :: st, dm_push σ (.inl ci.toNat)) from if_pos h]
  rfl
theorem ys_nal {S : dm_Sc} {d pc len : Nat} {ret : Option FieldType} {code k : List dm_Op} {ls : dm_Lv} {st : List Value} {σ : dm_St} {Q : Option Value → dm_St → Prop} {aux : List Int} (h : σ.2.1.1 = 0) : Yxw S d ret code ((pc, .newarray .long, len, aux) :: k) ls (.int 1 :: st) σ Q ↔ Yxw S d ret code k ls (.ref σ.1.length :: st) (dm_push σ (.inr (1, 1))) Q := by
  rw [Yxw_sx rfl, show dm_sx S (.newarray .long) aux ls (.int 1 :: st) σ = some (ls, .ref σ.1.length :: st, dm_push σ (.inr (1, 1))) from (if_pos ⟨by decide, by decide, h⟩).trans (if_pos h)]
  rfl
theorem ct_run : ∃ σ1 σ2, dm_run dm_S0 dm_tab 8 4000 110 [.ref 0] dm_0 = some (none, σ1) ∧ dm_run dm_S0 dm_tab 8 4000 148 [.ref 286] (dm_push σ1 (.inl 11)) = some (none, σ2) ∧ (dm_push σ2 (.inr (1, 1))).1 = ct_SH ∧ ct_ck (un (dm_push σ2 (.inr (1, 1)))) = true := by
  have h := ct_ok
  unfold ct_1 at h
  split at h
  · rename_i σ1 h1
    rw [Option.bind_some] at h
    unfold ct_2 at h
    split at h
    · rename_i σ2 h2
      rw [Option.map_some] at h
      have h3 := Option.some.inj h
      rw [Bool.and_eq_true, decide_eq_true_eq] at h3
      exact ⟨σ1, σ2, h1, h2, h3.1, h3.2⟩
    · cases h
  · cases h
set_option maxRecDepth 1000000 in
theorem ct_ok1 : ct_1.map (fun σ => decide (σ.1.length = 286) && decide (σ.2.1.1 = 0)) = some true := by decide +kernel
theorem ct_sh1 {σ1 : dm_St} (h1 : dm_run dm_S0 dm_tab 8 4000 110 [.ref 0] dm_0 = some (none, σ1)) : σ1.1.length = 286 ∧ σ1.2.1.1 = 0 := by
  have h := ct_ok1
  unfold ct_1 at h
  rw [h1] at h
  simp only [Option.map_some, Option.some.injEq, Bool.and_eq_true, decide_eq_true_eq] at h
  exact h
theorem ct_sh {τ : dm_St} (hs : (dm_push τ (.inr (1, 1))).1 = ct_SH) (h : ct_ck (un (dm_push τ (.inr (1, 1)))) = true) : τ.1 = ct_SH.take 311 ∧ τ.2.1 = (0, 0) := by
  unfold ct_ck at h
  simp only [Bool.and_eq_true, decide_eq_true_eq] at h
  obtain ⟨⟨⟨⟨-, h2⟩, -⟩, -⟩, -⟩ := h
  have e : ct_SH = ct_SH.take 311 ++ [.inr (1, 1)] := by decide +kernel
  have h1' : τ.1 ++ [.inr (1, 1)] = ct_SH := hs
  rw [e] at h1'
  exact ⟨(List.append_inj_left' h1' rfl), h2⟩
theorem yc_run {S : dm_Sc} {d d' n mi : Nat} {as : List Value} {σ σ1 : dm_St} {r : Option Value} {Q : Option Value → dm_St → Prop} (hm : ¬ mi = 1000) (hm2 : ¬ mi = 1001) (hd : d' ≤ d) (h : dm_run dm_S0 dm_tab d' n mi as σ = some (r, σ1)) (hQ : Q r σ1) : Yxc S d mi as σ Q := by
  rw [Yxc_xc hm hm2]
  exact xc_deeper hd ⟨n, r, σ1, xS_run d' _ _ _ _ h, hQ⟩
theorem lw_begin {S : dm_Sc} {Q : Option Value → dm_St → Prop} (hS : S.1 < 2147483648) (hL : S.1 / 7 ≤ 600) (fin : ∀ g' σ' τ', g'.1 ≤ S.1 / 7 → g'.2 ≤ 6 * (S.1 / 7) → AF (S.1 / 7) g' σ' → RN ph σ' τ' → Q (some (.int 1)) τ') : Yxw S 60 (some .boolean) qL_law kL_law_0 (lvs [.retAddr 200, .null, .null, .null, .null, .null, .null]) [] dm_e Q := by
  obtain ⟨σ1, σ2, h1, h2, cs, ck⟩ := ct_run
  obtain ⟨s2, g2⟩ := ct_sh cs ck
  obtain ⟨l1, z1⟩ := ct_sh1 h1
  unfold kL_law_0
  rw [ys_new rfl, show (((10 : Int).toNat) : Nat) = 10 from rfl, dm_e0, show dm_e.1.length = 0 from rfl]
  have s0 : dm_sh dm_0 = [.inl 10] := rfl
  simp (disch := omega) only [gL_law_30, gL_law_40_0, gL_law_40_1, gL_law_40_2, gL_law_40_3, gL_law_40_4, gL_law_40_5, gL_law_40_6, gL_law_40_7, gL_law_40_8, gL_law_40_9, gL_law_40_10, gL_law_40_11, gL_law_40_12, gL_law_40_13, gL_law_40_14, gL_law_40_15, gL_law_40_16, gL_law_40_17, gL_law_40_18, gL_law_40_19, gL_law_40_20, gL_law_40_21, gL_law_40_22, gL_law_40_23, gL_law_40_24, gL_law_40_25, gL_law_40_26, gL_law_40_27, gL_law_40_28, gL_law_40_29, gL_law_40_30, gL_law_40_31, gL_law_40_32, gL_law_326, gL_law_339, gL_law_352, gL_law_389, gL_law_426, gL_law_451, gL_law_476, gL_law_513, gL_law_538, gL_law_563, gL_law_576, gL_law_613, gL_law_626, gL_law_651, gL_law_676, gL_law_713, gL_law_750, gL_law_787, gL_law_812, gL_law_849, gL_law_910, gL_law_971, gL_law_1019, gL_law_1026, gL_law_1036, gL_law_1041, gL_law_1087, gL_law_1094, gL_law_1104, gL_law_1109, gL_law_1144, gL_law_1181, gL_law_1206, gL_law_1243, gL_law_1268, gL_law_1317, gL_law_1335, gL_law_1339, gL_law_1359, gL_law_1363, gL_law_1370, gL_law_1395, gL_law_1403, Yxi_iadd, Yxi_isub, Yxi_iand, Yxi_land, Yxi_lor, Yxi_lshl, Yxi_lcmp, Yxi_i2l, Yxi_iconst, Yxi_bipush, Yxi_ldc2, Yxi_dupI, Yxi_dupR, Yxi_laload, Yxi_alen, Yxw_p1, Yxw_s4, Yxw_v1, Yxw_v2, Yxw_v3, Yxw_v4, Yxw_v5, Yxw_goto, Yxw_icmp, Yxw_if, Yxw_iret, Yxw_tsw, Yxl_aload_0, Yxl_aload_1, Yxl_aload_2, Yxl_aload_3, Yxl_astore_1, Yxl_astore_2, Yxl_astore_3, Yxl_bload_0, Yxl_bload_1, Yxl_bload_2, Yxl_bload_3, Yxl_iinc_4, Yxl_iload_4, Yxl_iload_5, Yxl_iload_6, Yxl_istore_4, Yxl_istore_5, Yxl_istore_6, xk_b31, xk_b32, xk_b6, xk_b7, xk_d4294967295, xk_i0, xk_i1, xk_i2, xk_i3, xk_i4, xk_i5, xk_i7, reduceIte, Nat.reduceBEq, Bool.false_eq_true, Bool.true_eq_false, if_true, if_false, Bool.not_true, Bool.not_false, Bool.and_true, Bool.and_false, Bool.true_and, Bool.false_and, Yxwm_some, Yxwm_none, Yxwm_ite, kl_I, kl_R, kl_X, kl_N, kl_L, dm_cmp, decide_eq_true_eq, decide_true, decide_false, xfI, xfB0, xfB1, xfBi, ite_self, xf00, xf10, xf11, Bool.or_true, Bool.true_or, Bool.or_false, Bool.false_or, Int.reduceToNat, true_and, and_true, and_self, false_and, and_false, not_false_eq_true, not_true_eq_false, ite_not, xwt_def, xg_cI, xg_cL, xg_cR, xg_cX, xg_cN, List.map_cons, List.map_nil, List.sum_cons, List.sum_nil, Nat.reduceAdd, Nat.reduceMul, Nat.reduceLeDiff, Option.toList, List.cons_append, List.nil_append, List.append_nil, dm_rcvR, dm_rcvX, mkI, mkL, mkR, mkS, mk_I, mk_L, mk_R, xd10, xd2, xd3, xd4, xz_0, xz_1, xz_2, xz_3, xz_4, xz_5, xz_6, xz_7, xz_8, xz_10, xz_13, xz_19, xz_25, xz_26, xz_31, xz_37, xz_43, xz_44, xz_56, xz_92, xy_0, xy_1, xy_2, xy_3, xy_4, xy_5, xy_6, xy_7, xy_8, xy_10, xy_13, xy_19, xy_25, xy_26, xy_31, xy_37, xy_43, xy_44, xy_56, xy_92, xi_add, xi_in, xi_cl, xi_le, xi_lt, xi_eq, xi_m1, xi_lt0, xi_ge0, xa_0, xle_0, xg_0, xq_0, xa_1, xp_1, xu_1, xl_1, xg_1, xle_1, xge_1, xq_1, xs_1, xa_2, xp_2, xu_2, xl_2, xg_2, xle_2, xge_2, xq_2, xs_2, xa_3, xp_3, xu_3, xl_3, xg_3, xle_3, xge_3, xq_3, xs_3, xa_4, xp_4, xu_4, xl_4, xg_4, xle_4, xge_4, xq_4, xs_4, xa_5, xp_5, xu_5, xl_5, xg_5, xle_5, xge_5, xq_5, xs_5, xa_6, xp_6, xu_6, xl_6, xg_6, xle_6, xge_6, xq_6, xs_6, xa_7, xp_7, xu_7, xl_7, xg_7, xle_7, xge_7, xq_7, xs_7, xa_31, xp_31, xu_31, xl_31, xg_31, xle_31, xge_31, xq_31, xs_31, s0, dm_wait]
  have sA : (dm_sh dm_0)[0]? = some (.inl 10) := rfl
  refine ⟨⟨rfl, rfl⟩, ?_⟩
  refine yc_run (d' := 8) (by decide) (by decide) (by omega) h1 ?_
  show Yxw S 60 (some FieldType.boolean) qL_law ((7, .astore_n 1, 1, []) :: _) _ [.ref 0] σ1 Q
  rw [Yxl_astore_1, ys_new z1, l1, show (((11 : Int).toNat) : Nat) = 11 from rfl, Yxi_dupR, Yxw_p1]
  refine ⟨⟨rfl, ?_⟩, ?_⟩
  · show decide ((σ1.1 ++ [.inl 11])[286]? = some (.inl 11)) = true
    rw [decide_eq_true_eq, ← l1]
    exact List.getElem?_concat_length
  refine yc_run (d' := 8) (by decide) (by decide) (by omega) h2 ?_
  have l2 : σ2.1.length = 311 := by rw [s2]; decide +kernel
  have z2 : σ2.2.1.1 = 0 := by rw [g2]
  show Yxw S 60 (some FieldType.boolean) qL_law ((15, .astore_n 2, 1, []) :: _) _ [.ref 286] σ2 Q
  rw [Yxl_astore_2, Yxi_iconst, show (Int32.ofInt 1) = 1 from rfl, ys_nal z2, l2, Yxl_astore_3, Yxi_iconst, Yxl_istore_4]
  have w := Yxw_rn ph_ok (RN_un cs) (Q' := Q) (fun r σ' τ' hr q => by
      obtain ⟨rfl, g', a1, a2, a3⟩ := q
      exact fin g' σ' τ' a1 a2 a3 hr) (lw_loop (d := 0) (x5 := .null) (x6 := .null) (Q := fun r σ' => r = some (.int 1) ∧ ∃ g', g'.1 ≤ S.1 / 7 ∧ g'.2 ≤ 6 * (S.1 / 7) ∧ AF (S.1 / 7) g' σ') hS hL rfl (Or.inr (ct_FR ck)) (fun g' σ' a1 a2 a3 => ⟨rfl, g', a1, a2, a3⟩))
  have p0 : ph 0 = 0 := by decide +kernel
  have p1 : ph 264 = 286 := by decide +kernel
  have p2 : ph 289 = 311 := by decide +kernel
  have e : rs ph [.retAddr 200, .ref 0, .ref 264, .ref 289, .int (nI (7 * 0)), .null, .null] = [.retAddr 200, .ref 0, .ref 286, .ref 311, .int (nI (7 * 0)), .null, .null] := by
    show [Value.retAddr 200, .ref (ph 0), .ref (ph 264), .ref (ph 289), .int (nI (7 * 0)), .null, .null] = _
    rw [p0, p1, p2]
  rw [e] at w
  exact w
/-- the whole run, in the pure machine -/
theorem lw_pure {S : dm_Sc} (hS : S.1 ≤ 3584) : ∃ n N σ', dm_exec S (lcall S 60 N) (some .boolean) qL_law n qL_law (lv_args 0 [.retAddr 200]) [] dm_e = some (some (.int 1), σ') ∧ dm_cost σ' ≤ 824 ∧ dm_slo σ' ≤ (ly_SH.map dm_sz).sum + 3072 := by
  obtain ⟨n, N, r, σ', h, rfl, h2⟩ := lw_begin (S := S) (Q := fun r σ' => r = some (.int 1) ∧ (dm_cost σ' ≤ 824 ∧ dm_slo σ' ≤ (ly_SH.map dm_sz).sum + 3072)) (by omega) (by omega) (fun g σ' τ' h1 h2 hA hr => by
    obtain ⟨I, L, R, rfl⟩ := hA.mk
    have es : τ'.1 = ct_SH := RN_sh hr rfl
    have eg : τ'.2.1 = g := hr.2.2.2.1
    refine ⟨rfl, ?_, ?_⟩
    · show τ'.1.length + τ'.2.1.1 ≤ 824
      rw [es, eg, ct_len]
      omega
    · show (τ'.1.map dm_sz).sum + τ'.2.1.2 ≤ _
      rw [es, eg, ct_sum]
      omega)
  exact ⟨n, N, σ', h, h2⟩
