/-! Tools: numbers as nI, contracts by what is so afterwards. -/
theorem xc_ex {S : dm_Sc} {d mi : Nat} {as : List Value} {σ : dm_St} {α : Type} {P : α → Prop} {ans : α → Option Value} {f : α → dm_St} (h : xc S d mi as σ (fun r σ' => ∃ a, P a ∧ r = ans a ∧ σ' = f a)) : ∃ a, P a ∧ ∀ Q, (xc S d mi as σ Q ↔ Q (ans a) (f a)) := by
  obtain ⟨N, r, σ', hr, a, ha, h1, h2⟩ := h
  exact ⟨a, ha, fun Q => xc_iff ⟨N, r, σ', hr, h1, h2⟩⟩
theorem xi_add (a b : Nat) : nI a + nI b = nI (a + b) := nI_add a b
theorem xi_sub {a b : Nat} (h : b ≤ a) : nI a - nI b = nI (a - b) := by
  have : nI a = nI (a - b) + nI b := by rw [nI_add, Nat.sub_add_cancel h]
  rw [this, Int32.add_sub_cancel]
theorem xi_in {a n : Nat} (h : a < n) (hN : n < 2147483648) : dm_in (nI a) n = true := xinN h hN
theorem xi_cl {a : Nat} (h : a < 2147483648) : (nI a).toNatClampNeg = a := nI_clamp h
theorem xi_le {a b : Nat} (ha : a < 2147483648) (hb : b < 2147483648) : (nI a ≤ nI b) = (a ≤ b) := propext (nI_leI ha hb)
theorem xi_lt {a b : Nat} (ha : a < 2147483648) (hb : b < 2147483648) : (nI a < nI b) = (a < b) := propext (nI_ltI ha hb)
theorem xi_eq {a b : Nat} (ha : a < 2147483648) (hb : b < 2147483648) : (nI a = nI b) = (a = b) := by
  refine propext ⟨fun h => ?_, fun h => by rw [h]⟩
  have := congrArg Int32.toNatClampNeg h
  rwa [xi_cl ha, xi_cl hb] at this
theorem xi_m1 {a : Nat} (ha : a < 2147483648) : (nI a = -1) = False := by
  refine propext ⟨fun h => ?_, fun h => h.elim⟩
  have h0 : nI 0 ≤ nI a := (nI_leI (by decide) ha).mpr (Nat.zero_le a)
  rw [h] at h0
  exact absurd h0 (by decide)
theorem xi_lt0 {a : Nat} (ha : a < 2147483648) : (nI a < 0) = False := by
  have : (nI a < nI 0) = (a < 0) := xi_lt ha (by decide)
  rw [xn_0, this]; simp
theorem xi_ge0 {a : Nat} (ha : a < 2147483648) : ((0 : Int32) ≤ nI a) = True := by
  have : (nI 0 ≤ nI a) = (0 ≤ a) := xi_le (by decide) ha
  rw [xn_0, this]; simp
theorem xa_1 (a : Nat) : nI a + 1 = nI (a + 1) := nI_add a 1
theorem xp_1 (a : Nat) : (1 : Int32) + nI a = nI (1 + a) := nI_add 1 a
theorem xu_1 (a : Nat) : (1 : Int32) * nI a = nI (1 * a) := pk_mul 1 a
theorem xl_1 {a : Nat} (h : a < 2147483648) : (nI a < 1) = (a < 1) := xi_lt h (by decide)
theorem xg_1 {a : Nat} (h : a < 2147483648) : ((1 : Int32) < nI a) = (1 < a) := xi_lt (by decide) h
theorem xle_1 {a : Nat} (h : a < 2147483648) : (nI a ≤ 1) = (a ≤ 1) := xi_le h (by decide)
theorem xge_1 {a : Nat} (h : a < 2147483648) : ((1 : Int32) ≤ nI a) = (1 ≤ a) := xi_le (by decide) h
theorem xq_1 {a : Nat} (h : a < 2147483648) : (nI a = 1) = (a = 1) := xi_eq h (by decide)
theorem xs_1 {a : Nat} (h : 1 ≤ a) : nI a - 1 = nI (a - 1) := xi_sub h
theorem xa_2 (a : Nat) : nI a + 2 = nI (a + 2) := nI_add a 2
theorem xp_2 (a : Nat) : (2 : Int32) + nI a = nI (2 + a) := nI_add 2 a
theorem xu_2 (a : Nat) : (2 : Int32) * nI a = nI (2 * a) := pk_mul 2 a
theorem xl_2 {a : Nat} (h : a < 2147483648) : (nI a < 2) = (a < 2) := xi_lt h (by decide)
theorem xg_2 {a : Nat} (h : a < 2147483648) : ((2 : Int32) < nI a) = (2 < a) := xi_lt (by decide) h
theorem xle_2 {a : Nat} (h : a < 2147483648) : (nI a ≤ 2) = (a ≤ 2) := xi_le h (by decide)
theorem xge_2 {a : Nat} (h : a < 2147483648) : ((2 : Int32) ≤ nI a) = (2 ≤ a) := xi_le (by decide) h
theorem xq_2 {a : Nat} (h : a < 2147483648) : (nI a = 2) = (a = 2) := xi_eq h (by decide)
theorem xs_2 {a : Nat} (h : 2 ≤ a) : nI a - 2 = nI (a - 2) := xi_sub h
theorem xa_3 (a : Nat) : nI a + 3 = nI (a + 3) := nI_add a 3
theorem xp_3 (a : Nat) : (3 : Int32) + nI a = nI (3 + a) := nI_add 3 a
theorem xu_3 (a : Nat) : (3 : Int32) * nI a = nI (3 * a) := pk_mul 3 a
theorem xl_3 {a : Nat} (h : a < 2147483648) : (nI a < 3) = (a < 3) := xi_lt h (by decide)
theorem xg_3 {a : Nat} (h : a < 2147483648) : ((3 : Int32) < nI a) = (3 < a) := xi_lt (by decide) h
theorem xle_3 {a : Nat} (h : a < 2147483648) : (nI a ≤ 3) = (a ≤ 3) := xi_le h (by decide)
theorem xge_3 {a : Nat} (h : a < 2147483648) : ((3 : Int32) ≤ nI a) = (3 ≤ a) := xi_le (by decide) h
theorem xq_3 {a : Nat} (h : a < 2147483648) : (nI a = 3) = (a = 3) := xi_eq h (by decide)
theorem xs_3 {a : Nat} (h : 3 ≤ a) : nI a - 3 = nI (a - 3) := xi_sub h
theorem xa_4 (a : Nat) : nI a + 4 = nI (a + 4) := nI_add a 4
theorem xp_4 (a : Nat) : (4 : Int32) + nI a = nI (4 + a) := nI_add 4 a
theorem xu_4 (a : Nat) : (4 : Int32) * nI a = nI (4 * a) := pk_mul 4 a
theorem xl_4 {a : Nat} (h : a < 2147483648) : (nI a < 4) = (a < 4) := xi_lt h (by decide)
theorem xg_4 {a : Nat} (h : a < 2147483648) : ((4 : Int32) < nI a) = (4 < a) := xi_lt (by decide) h
theorem xle_4 {a : Nat} (h : a < 2147483648) : (nI a ≤ 4) = (a ≤ 4) := xi_le h (by decide)
theorem xge_4 {a : Nat} (h : a < 2147483648) : ((4 : Int32) ≤ nI a) = (4 ≤ a) := xi_le (by decide) h
theorem xq_4 {a : Nat} (h : a < 2147483648) : (nI a = 4) = (a = 4) := xi_eq h (by decide)
theorem xs_4 {a : Nat} (h : 4 ≤ a) : nI a - 4 = nI (a - 4) := xi_sub h
theorem xa_5 (a : Nat) : nI a + 5 = nI (a + 5) := nI_add a 5
theorem xp_5 (a : Nat) : (5 : Int32) + nI a = nI (5 + a) := nI_add 5 a
theorem xu_5 (a : Nat) : (5 : Int32) * nI a = nI (5 * a) := pk_mul 5 a
theorem xl_5 {a : Nat} (h : a < 2147483648) : (nI a < 5) = (a < 5) := xi_lt h (by decide)
theorem xg_5 {a : Nat} (h : a < 2147483648) : ((5 : Int32) < nI a) = (5 < a) := xi_lt (by decide) h
theorem xle_5 {a : Nat} (h : a < 2147483648) : (nI a ≤ 5) = (a ≤ 5) := xi_le h (by decide)
theorem xge_5 {a : Nat} (h : a < 2147483648) : ((5 : Int32) ≤ nI a) = (5 ≤ a) := xi_le (by decide) h
theorem xq_5 {a : Nat} (h : a < 2147483648) : (nI a = 5) = (a = 5) := xi_eq h (by decide)
theorem xs_5 {a : Nat} (h : 5 ≤ a) : nI a - 5 = nI (a - 5) := xi_sub h
theorem xa_6 (a : Nat) : nI a + 6 = nI (a + 6) := nI_add a 6
theorem xp_6 (a : Nat) : (6 : Int32) + nI a = nI (6 + a) := nI_add 6 a
theorem xu_6 (a : Nat) : (6 : Int32) * nI a = nI (6 * a) := pk_mul 6 a
theorem xl_6 {a : Nat} (h : a < 2147483648) : (nI a < 6) = (a < 6) := xi_lt h (by decide)
theorem xg_6 {a : Nat} (h : a < 2147483648) : ((6 : Int32) < nI a) = (6 < a) := xi_lt (by decide) h
theorem xle_6 {a : Nat} (h : a < 2147483648) : (nI a ≤ 6) = (a ≤ 6) := xi_le h (by decide)
theorem xge_6 {a : Nat} (h : a < 2147483648) : ((6 : Int32) ≤ nI a) = (6 ≤ a) := xi_le (by decide) h
theorem xq_6 {a : Nat} (h : a < 2147483648) : (nI a = 6) = (a = 6) := xi_eq h (by decide)
theorem xs_6 {a : Nat} (h : 6 ≤ a) : nI a - 6 = nI (a - 6) := xi_sub h
theorem xa_7 (a : Nat) : nI a + 7 = nI (a + 7) := nI_add a 7
theorem xp_7 (a : Nat) : (7 : Int32) + nI a = nI (7 + a) := nI_add 7 a
theorem xu_7 (a : Nat) : (7 : Int32) * nI a = nI (7 * a) := pk_mul 7 a
theorem xl_7 {a : Nat} (h : a < 2147483648) : (nI a < 7) = (a < 7) := xi_lt h (by decide)
theorem xg_7 {a : Nat} (h : a < 2147483648) : ((7 : Int32) < nI a) = (7 < a) := xi_lt (by decide) h
theorem xle_7 {a : Nat} (h : a < 2147483648) : (nI a ≤ 7) = (a ≤ 7) := xi_le h (by decide)
theorem xge_7 {a : Nat} (h : a < 2147483648) : ((7 : Int32) ≤ nI a) = (7 ≤ a) := xi_le (by decide) h
theorem xq_7 {a : Nat} (h : a < 2147483648) : (nI a = 7) = (a = 7) := xi_eq h (by decide)
theorem xs_7 {a : Nat} (h : 7 ≤ a) : nI a - 7 = nI (a - 7) := xi_sub h
theorem xa_8 (a : Nat) : nI a + 8 = nI (a + 8) := nI_add a 8
theorem xp_8 (a : Nat) : (8 : Int32) + nI a = nI (8 + a) := nI_add 8 a
theorem xu_8 (a : Nat) : (8 : Int32) * nI a = nI (8 * a) := pk_mul 8 a
theorem xl_8 {a : Nat} (h : a < 2147483648) : (nI a < 8) = (a < 8) := xi_lt h (by decide)
theorem xg_8 {a : Nat} (h : a < 2147483648) : ((8 : Int32) < nI a) = (8 < a) := xi_lt (by decide) h
theorem xle_8 {a : Nat} (h : a < 2147483648) : (nI a ≤ 8) = (a ≤ 8) := xi_le h (by decide)
theorem xge_8 {a : Nat} (h : a < 2147483648) : ((8 : Int32) ≤ nI a) = (8 ≤ a) := xi_le (by decide) h
theorem xq_8 {a : Nat} (h : a < 2147483648) : (nI a = 8) = (a = 8) := xi_eq h (by decide)
theorem xs_8 {a : Nat} (h : 8 ≤ a) : nI a - 8 = nI (a - 8) := xi_sub h
theorem xa_10 (a : Nat) : nI a + 10 = nI (a + 10) := nI_add a 10
theorem xp_10 (a : Nat) : (10 : Int32) + nI a = nI (10 + a) := nI_add 10 a
theorem xu_10 (a : Nat) : (10 : Int32) * nI a = nI (10 * a) := pk_mul 10 a
theorem xl_10 {a : Nat} (h : a < 2147483648) : (nI a < 10) = (a < 10) := xi_lt h (by decide)
theorem xg_10 {a : Nat} (h : a < 2147483648) : ((10 : Int32) < nI a) = (10 < a) := xi_lt (by decide) h
theorem xle_10 {a : Nat} (h : a < 2147483648) : (nI a ≤ 10) = (a ≤ 10) := xi_le h (by decide)
theorem xge_10 {a : Nat} (h : a < 2147483648) : ((10 : Int32) ≤ nI a) = (10 ≤ a) := xi_le (by decide) h
theorem xq_10 {a : Nat} (h : a < 2147483648) : (nI a = 10) = (a = 10) := xi_eq h (by decide)
theorem xs_10 {a : Nat} (h : 10 ≤ a) : nI a - 10 = nI (a - 10) := xi_sub h
theorem xa_12 (a : Nat) : nI a + 12 = nI (a + 12) := nI_add a 12
theorem xp_12 (a : Nat) : (12 : Int32) + nI a = nI (12 + a) := nI_add 12 a
theorem xu_12 (a : Nat) : (12 : Int32) * nI a = nI (12 * a) := pk_mul 12 a
theorem xl_12 {a : Nat} (h : a < 2147483648) : (nI a < 12) = (a < 12) := xi_lt h (by decide)
theorem xg_12 {a : Nat} (h : a < 2147483648) : ((12 : Int32) < nI a) = (12 < a) := xi_lt (by decide) h
theorem xle_12 {a : Nat} (h : a < 2147483648) : (nI a ≤ 12) = (a ≤ 12) := xi_le h (by decide)
theorem xge_12 {a : Nat} (h : a < 2147483648) : ((12 : Int32) ≤ nI a) = (12 ≤ a) := xi_le (by decide) h
theorem xq_12 {a : Nat} (h : a < 2147483648) : (nI a = 12) = (a = 12) := xi_eq h (by decide)
theorem xs_12 {a : Nat} (h : 12 ≤ a) : nI a - 12 = nI (a - 12) := xi_sub h
theorem xa_13 (a : Nat) : nI a + 13 = nI (a + 13) := nI_add a 13
theorem xp_13 (a : Nat) : (13 : Int32) + nI a = nI (13 + a) := nI_add 13 a
theorem xu_13 (a : Nat) : (13 : Int32) * nI a = nI (13 * a) := pk_mul 13 a
theorem xl_13 {a : Nat} (h : a < 2147483648) : (nI a < 13) = (a < 13) := xi_lt h (by decide)
theorem xg_13 {a : Nat} (h : a < 2147483648) : ((13 : Int32) < nI a) = (13 < a) := xi_lt (by decide) h
theorem xle_13 {a : Nat} (h : a < 2147483648) : (nI a ≤ 13) = (a ≤ 13) := xi_le h (by decide)
theorem xge_13 {a : Nat} (h : a < 2147483648) : ((13 : Int32) ≤ nI a) = (13 ≤ a) := xi_le (by decide) h
theorem xq_13 {a : Nat} (h : a < 2147483648) : (nI a = 13) = (a = 13) := xi_eq h (by decide)
theorem xs_13 {a : Nat} (h : 13 ≤ a) : nI a - 13 = nI (a - 13) := xi_sub h
theorem xa_16 (a : Nat) : nI a + 16 = nI (a + 16) := nI_add a 16
theorem xp_16 (a : Nat) : (16 : Int32) + nI a = nI (16 + a) := nI_add 16 a
theorem xu_16 (a : Nat) : (16 : Int32) * nI a = nI (16 * a) := pk_mul 16 a
theorem xl_16 {a : Nat} (h : a < 2147483648) : (nI a < 16) = (a < 16) := xi_lt h (by decide)
theorem xg_16 {a : Nat} (h : a < 2147483648) : ((16 : Int32) < nI a) = (16 < a) := xi_lt (by decide) h
theorem xle_16 {a : Nat} (h : a < 2147483648) : (nI a ≤ 16) = (a ≤ 16) := xi_le h (by decide)
theorem xge_16 {a : Nat} (h : a < 2147483648) : ((16 : Int32) ≤ nI a) = (16 ≤ a) := xi_le (by decide) h
theorem xq_16 {a : Nat} (h : a < 2147483648) : (nI a = 16) = (a = 16) := xi_eq h (by decide)
theorem xs_16 {a : Nat} (h : 16 ≤ a) : nI a - 16 = nI (a - 16) := xi_sub h
theorem xa_19 (a : Nat) : nI a + 19 = nI (a + 19) := nI_add a 19
theorem xp_19 (a : Nat) : (19 : Int32) + nI a = nI (19 + a) := nI_add 19 a
theorem xu_19 (a : Nat) : (19 : Int32) * nI a = nI (19 * a) := pk_mul 19 a
theorem xl_19 {a : Nat} (h : a < 2147483648) : (nI a < 19) = (a < 19) := xi_lt h (by decide)
theorem xg_19 {a : Nat} (h : a < 2147483648) : ((19 : Int32) < nI a) = (19 < a) := xi_lt (by decide) h
theorem xle_19 {a : Nat} (h : a < 2147483648) : (nI a ≤ 19) = (a ≤ 19) := xi_le h (by decide)
theorem xge_19 {a : Nat} (h : a < 2147483648) : ((19 : Int32) ≤ nI a) = (19 ≤ a) := xi_le (by decide) h
theorem xq_19 {a : Nat} (h : a < 2147483648) : (nI a = 19) = (a = 19) := xi_eq h (by decide)
theorem xs_19 {a : Nat} (h : 19 ≤ a) : nI a - 19 = nI (a - 19) := xi_sub h
theorem xa_20 (a : Nat) : nI a + 20 = nI (a + 20) := nI_add a 20
theorem xp_20 (a : Nat) : (20 : Int32) + nI a = nI (20 + a) := nI_add 20 a
theorem xu_20 (a : Nat) : (20 : Int32) * nI a = nI (20 * a) := pk_mul 20 a
theorem xl_20 {a : Nat} (h : a < 2147483648) : (nI a < 20) = (a < 20) := xi_lt h (by decide)
theorem xg_20 {a : Nat} (h : a < 2147483648) : ((20 : Int32) < nI a) = (20 < a) := xi_lt (by decide) h
theorem xle_20 {a : Nat} (h : a < 2147483648) : (nI a ≤ 20) = (a ≤ 20) := xi_le h (by decide)
theorem xge_20 {a : Nat} (h : a < 2147483648) : ((20 : Int32) ≤ nI a) = (20 ≤ a) := xi_le (by decide) h
theorem xq_20 {a : Nat} (h : a < 2147483648) : (nI a = 20) = (a = 20) := xi_eq h (by decide)
theorem xs_20 {a : Nat} (h : 20 ≤ a) : nI a - 20 = nI (a - 20) := xi_sub h
theorem xa_21 (a : Nat) : nI a + 21 = nI (a + 21) := nI_add a 21
theorem xp_21 (a : Nat) : (21 : Int32) + nI a = nI (21 + a) := nI_add 21 a
theorem xu_21 (a : Nat) : (21 : Int32) * nI a = nI (21 * a) := pk_mul 21 a
theorem xl_21 {a : Nat} (h : a < 2147483648) : (nI a < 21) = (a < 21) := xi_lt h (by decide)
theorem xg_21 {a : Nat} (h : a < 2147483648) : ((21 : Int32) < nI a) = (21 < a) := xi_lt (by decide) h
theorem xle_21 {a : Nat} (h : a < 2147483648) : (nI a ≤ 21) = (a ≤ 21) := xi_le h (by decide)
theorem xge_21 {a : Nat} (h : a < 2147483648) : ((21 : Int32) ≤ nI a) = (21 ≤ a) := xi_le (by decide) h
theorem xq_21 {a : Nat} (h : a < 2147483648) : (nI a = 21) = (a = 21) := xi_eq h (by decide)
theorem xs_21 {a : Nat} (h : 21 ≤ a) : nI a - 21 = nI (a - 21) := xi_sub h
theorem xa_24 (a : Nat) : nI a + 24 = nI (a + 24) := nI_add a 24
theorem xp_24 (a : Nat) : (24 : Int32) + nI a = nI (24 + a) := nI_add 24 a
theorem xu_24 (a : Nat) : (24 : Int32) * nI a = nI (24 * a) := pk_mul 24 a
theorem xl_24 {a : Nat} (h : a < 2147483648) : (nI a < 24) = (a < 24) := xi_lt h (by decide)
theorem xg_24 {a : Nat} (h : a < 2147483648) : ((24 : Int32) < nI a) = (24 < a) := xi_lt (by decide) h
theorem xle_24 {a : Nat} (h : a < 2147483648) : (nI a ≤ 24) = (a ≤ 24) := xi_le h (by decide)
theorem xge_24 {a : Nat} (h : a < 2147483648) : ((24 : Int32) ≤ nI a) = (24 ≤ a) := xi_le (by decide) h
theorem xq_24 {a : Nat} (h : a < 2147483648) : (nI a = 24) = (a = 24) := xi_eq h (by decide)
theorem xs_24 {a : Nat} (h : 24 ≤ a) : nI a - 24 = nI (a - 24) := xi_sub h
theorem xa_25 (a : Nat) : nI a + 25 = nI (a + 25) := nI_add a 25
theorem xp_25 (a : Nat) : (25 : Int32) + nI a = nI (25 + a) := nI_add 25 a
theorem xu_25 (a : Nat) : (25 : Int32) * nI a = nI (25 * a) := pk_mul 25 a
theorem xl_25 {a : Nat} (h : a < 2147483648) : (nI a < 25) = (a < 25) := xi_lt h (by decide)
theorem xg_25 {a : Nat} (h : a < 2147483648) : ((25 : Int32) < nI a) = (25 < a) := xi_lt (by decide) h
theorem xle_25 {a : Nat} (h : a < 2147483648) : (nI a ≤ 25) = (a ≤ 25) := xi_le h (by decide)
theorem xge_25 {a : Nat} (h : a < 2147483648) : ((25 : Int32) ≤ nI a) = (25 ≤ a) := xi_le (by decide) h
theorem xq_25 {a : Nat} (h : a < 2147483648) : (nI a = 25) = (a = 25) := xi_eq h (by decide)
theorem xs_25 {a : Nat} (h : 25 ≤ a) : nI a - 25 = nI (a - 25) := xi_sub h
theorem xa_26 (a : Nat) : nI a + 26 = nI (a + 26) := nI_add a 26
theorem xp_26 (a : Nat) : (26 : Int32) + nI a = nI (26 + a) := nI_add 26 a
theorem xu_26 (a : Nat) : (26 : Int32) * nI a = nI (26 * a) := pk_mul 26 a
theorem xl_26 {a : Nat} (h : a < 2147483648) : (nI a < 26) = (a < 26) := xi_lt h (by decide)
theorem xg_26 {a : Nat} (h : a < 2147483648) : ((26 : Int32) < nI a) = (26 < a) := xi_lt (by decide) h
theorem xle_26 {a : Nat} (h : a < 2147483648) : (nI a ≤ 26) = (a ≤ 26) := xi_le h (by decide)
theorem xge_26 {a : Nat} (h : a < 2147483648) : ((26 : Int32) ≤ nI a) = (26 ≤ a) := xi_le (by decide) h
theorem xq_26 {a : Nat} (h : a < 2147483648) : (nI a = 26) = (a = 26) := xi_eq h (by decide)
theorem xs_26 {a : Nat} (h : 26 ≤ a) : nI a - 26 = nI (a - 26) := xi_sub h
theorem xa_30 (a : Nat) : nI a + 30 = nI (a + 30) := nI_add a 30
theorem xp_30 (a : Nat) : (30 : Int32) + nI a = nI (30 + a) := nI_add 30 a
theorem xu_30 (a : Nat) : (30 : Int32) * nI a = nI (30 * a) := pk_mul 30 a
theorem xl_30 {a : Nat} (h : a < 2147483648) : (nI a < 30) = (a < 30) := xi_lt h (by decide)
theorem xg_30 {a : Nat} (h : a < 2147483648) : ((30 : Int32) < nI a) = (30 < a) := xi_lt (by decide) h
theorem xle_30 {a : Nat} (h : a < 2147483648) : (nI a ≤ 30) = (a ≤ 30) := xi_le h (by decide)
theorem xge_30 {a : Nat} (h : a < 2147483648) : ((30 : Int32) ≤ nI a) = (30 ≤ a) := xi_le (by decide) h
theorem xq_30 {a : Nat} (h : a < 2147483648) : (nI a = 30) = (a = 30) := xi_eq h (by decide)
theorem xs_30 {a : Nat} (h : 30 ≤ a) : nI a - 30 = nI (a - 30) := xi_sub h
theorem xa_31 (a : Nat) : nI a + 31 = nI (a + 31) := nI_add a 31
theorem xp_31 (a : Nat) : (31 : Int32) + nI a = nI (31 + a) := nI_add 31 a
theorem xu_31 (a : Nat) : (31 : Int32) * nI a = nI (31 * a) := pk_mul 31 a
theorem xl_31 {a : Nat} (h : a < 2147483648) : (nI a < 31) = (a < 31) := xi_lt h (by decide)
theorem xg_31 {a : Nat} (h : a < 2147483648) : ((31 : Int32) < nI a) = (31 < a) := xi_lt (by decide) h
theorem xle_31 {a : Nat} (h : a < 2147483648) : (nI a ≤ 31) = (a ≤ 31) := xi_le h (by decide)
theorem xge_31 {a : Nat} (h : a < 2147483648) : ((31 : Int32) ≤ nI a) = (31 ≤ a) := xi_le (by decide) h
theorem xq_31 {a : Nat} (h : a < 2147483648) : (nI a = 31) = (a = 31) := xi_eq h (by decide)
theorem xs_31 {a : Nat} (h : 31 ≤ a) : nI a - 31 = nI (a - 31) := xi_sub h
theorem xa_37 (a : Nat) : nI a + 37 = nI (a + 37) := nI_add a 37
theorem xp_37 (a : Nat) : (37 : Int32) + nI a = nI (37 + a) := nI_add 37 a
theorem xu_37 (a : Nat) : (37 : Int32) * nI a = nI (37 * a) := pk_mul 37 a
theorem xl_37 {a : Nat} (h : a < 2147483648) : (nI a < 37) = (a < 37) := xi_lt h (by decide)
theorem xg_37 {a : Nat} (h : a < 2147483648) : ((37 : Int32) < nI a) = (37 < a) := xi_lt (by decide) h
theorem xle_37 {a : Nat} (h : a < 2147483648) : (nI a ≤ 37) = (a ≤ 37) := xi_le h (by decide)
theorem xge_37 {a : Nat} (h : a < 2147483648) : ((37 : Int32) ≤ nI a) = (37 ≤ a) := xi_le (by decide) h
theorem xq_37 {a : Nat} (h : a < 2147483648) : (nI a = 37) = (a = 37) := xi_eq h (by decide)
theorem xs_37 {a : Nat} (h : 37 ≤ a) : nI a - 37 = nI (a - 37) := xi_sub h
theorem xa_43 (a : Nat) : nI a + 43 = nI (a + 43) := nI_add a 43
theorem xp_43 (a : Nat) : (43 : Int32) + nI a = nI (43 + a) := nI_add 43 a
theorem xu_43 (a : Nat) : (43 : Int32) * nI a = nI (43 * a) := pk_mul 43 a
theorem xl_43 {a : Nat} (h : a < 2147483648) : (nI a < 43) = (a < 43) := xi_lt h (by decide)
theorem xg_43 {a : Nat} (h : a < 2147483648) : ((43 : Int32) < nI a) = (43 < a) := xi_lt (by decide) h
theorem xle_43 {a : Nat} (h : a < 2147483648) : (nI a ≤ 43) = (a ≤ 43) := xi_le h (by decide)
theorem xge_43 {a : Nat} (h : a < 2147483648) : ((43 : Int32) ≤ nI a) = (43 ≤ a) := xi_le (by decide) h
theorem xq_43 {a : Nat} (h : a < 2147483648) : (nI a = 43) = (a = 43) := xi_eq h (by decide)
theorem xs_43 {a : Nat} (h : 43 ≤ a) : nI a - 43 = nI (a - 43) := xi_sub h
theorem xa_44 (a : Nat) : nI a + 44 = nI (a + 44) := nI_add a 44
theorem xp_44 (a : Nat) : (44 : Int32) + nI a = nI (44 + a) := nI_add 44 a
theorem xu_44 (a : Nat) : (44 : Int32) * nI a = nI (44 * a) := pk_mul 44 a
theorem xl_44 {a : Nat} (h : a < 2147483648) : (nI a < 44) = (a < 44) := xi_lt h (by decide)
theorem xg_44 {a : Nat} (h : a < 2147483648) : ((44 : Int32) < nI a) = (44 < a) := xi_lt (by decide) h
theorem xle_44 {a : Nat} (h : a < 2147483648) : (nI a ≤ 44) = (a ≤ 44) := xi_le h (by decide)
theorem xge_44 {a : Nat} (h : a < 2147483648) : ((44 : Int32) ≤ nI a) = (44 ≤ a) := xi_le (by decide) h
theorem xq_44 {a : Nat} (h : a < 2147483648) : (nI a = 44) = (a = 44) := xi_eq h (by decide)
theorem xs_44 {a : Nat} (h : 44 ≤ a) : nI a - 44 = nI (a - 44) := xi_sub h
theorem xa_56 (a : Nat) : nI a + 56 = nI (a + 56) := nI_add a 56
theorem xp_56 (a : Nat) : (56 : Int32) + nI a = nI (56 + a) := nI_add 56 a
theorem xu_56 (a : Nat) : (56 : Int32) * nI a = nI (56 * a) := pk_mul 56 a
theorem xl_56 {a : Nat} (h : a < 2147483648) : (nI a < 56) = (a < 56) := xi_lt h (by decide)
theorem xg_56 {a : Nat} (h : a < 2147483648) : ((56 : Int32) < nI a) = (56 < a) := xi_lt (by decide) h
theorem xle_56 {a : Nat} (h : a < 2147483648) : (nI a ≤ 56) = (a ≤ 56) := xi_le h (by decide)
theorem xge_56 {a : Nat} (h : a < 2147483648) : ((56 : Int32) ≤ nI a) = (56 ≤ a) := xi_le (by decide) h
theorem xq_56 {a : Nat} (h : a < 2147483648) : (nI a = 56) = (a = 56) := xi_eq h (by decide)
theorem xs_56 {a : Nat} (h : 56 ≤ a) : nI a - 56 = nI (a - 56) := xi_sub h
theorem xa_92 (a : Nat) : nI a + 92 = nI (a + 92) := nI_add a 92
theorem xp_92 (a : Nat) : (92 : Int32) + nI a = nI (92 + a) := nI_add 92 a
theorem xu_92 (a : Nat) : (92 : Int32) * nI a = nI (92 * a) := pk_mul 92 a
theorem xl_92 {a : Nat} (h : a < 2147483648) : (nI a < 92) = (a < 92) := xi_lt h (by decide)
theorem xg_92 {a : Nat} (h : a < 2147483648) : ((92 : Int32) < nI a) = (92 < a) := xi_lt (by decide) h
theorem xle_92 {a : Nat} (h : a < 2147483648) : (nI a ≤ 92) = (a ≤ 92) := xi_le h (by decide)
theorem xge_92 {a : Nat} (h : a < 2147483648) : ((92 : Int32) ≤ nI a) = (92 ≤ a) := xi_le (by decide) h
theorem xq_92 {a : Nat} (h : a < 2147483648) : (nI a = 92) = (a = 92) := xi_eq h (by decide)
theorem xs_92 {a : Nat} (h : 92 ≤ a) : nI a - 92 = nI (a - 92) := xi_sub h
theorem xa_96 (a : Nat) : nI a + 96 = nI (a + 96) := nI_add a 96
theorem xp_96 (a : Nat) : (96 : Int32) + nI a = nI (96 + a) := nI_add 96 a
theorem xu_96 (a : Nat) : (96 : Int32) * nI a = nI (96 * a) := pk_mul 96 a
theorem xl_96 {a : Nat} (h : a < 2147483648) : (nI a < 96) = (a < 96) := xi_lt h (by decide)
theorem xg_96 {a : Nat} (h : a < 2147483648) : ((96 : Int32) < nI a) = (96 < a) := xi_lt (by decide) h
theorem xle_96 {a : Nat} (h : a < 2147483648) : (nI a ≤ 96) = (a ≤ 96) := xi_le h (by decide)
theorem xge_96 {a : Nat} (h : a < 2147483648) : ((96 : Int32) ≤ nI a) = (96 ≤ a) := xi_le (by decide) h
theorem xq_96 {a : Nat} (h : a < 2147483648) : (nI a = 96) = (a = 96) := xi_eq h (by decide)
theorem xs_96 {a : Nat} (h : 96 ≤ a) : nI a - 96 = nI (a - 96) := xi_sub h
theorem xa_97 (a : Nat) : nI a + 97 = nI (a + 97) := nI_add a 97
theorem xp_97 (a : Nat) : (97 : Int32) + nI a = nI (97 + a) := nI_add 97 a
theorem xu_97 (a : Nat) : (97 : Int32) * nI a = nI (97 * a) := pk_mul 97 a
theorem xl_97 {a : Nat} (h : a < 2147483648) : (nI a < 97) = (a < 97) := xi_lt h (by decide)
theorem xg_97 {a : Nat} (h : a < 2147483648) : ((97 : Int32) < nI a) = (97 < a) := xi_lt (by decide) h
theorem xle_97 {a : Nat} (h : a < 2147483648) : (nI a ≤ 97) = (a ≤ 97) := xi_le h (by decide)
theorem xge_97 {a : Nat} (h : a < 2147483648) : ((97 : Int32) ≤ nI a) = (97 ≤ a) := xi_le (by decide) h
theorem xq_97 {a : Nat} (h : a < 2147483648) : (nI a = 97) = (a = 97) := xi_eq h (by decide)
theorem xs_97 {a : Nat} (h : 97 ≤ a) : nI a - 97 = nI (a - 97) := xi_sub h
theorem xa_99 (a : Nat) : nI a + 99 = nI (a + 99) := nI_add a 99
theorem xp_99 (a : Nat) : (99 : Int32) + nI a = nI (99 + a) := nI_add 99 a
theorem xu_99 (a : Nat) : (99 : Int32) * nI a = nI (99 * a) := pk_mul 99 a
theorem xl_99 {a : Nat} (h : a < 2147483648) : (nI a < 99) = (a < 99) := xi_lt h (by decide)
theorem xg_99 {a : Nat} (h : a < 2147483648) : ((99 : Int32) < nI a) = (99 < a) := xi_lt (by decide) h
theorem xle_99 {a : Nat} (h : a < 2147483648) : (nI a ≤ 99) = (a ≤ 99) := xi_le h (by decide)
theorem xge_99 {a : Nat} (h : a < 2147483648) : ((99 : Int32) ≤ nI a) = (99 ≤ a) := xi_le (by decide) h
theorem xq_99 {a : Nat} (h : a < 2147483648) : (nI a = 99) = (a = 99) := xi_eq h (by decide)
theorem xs_99 {a : Nat} (h : 99 ≤ a) : nI a - 99 = nI (a - 99) := xi_sub h
theorem xa_100 (a : Nat) : nI a + 100 = nI (a + 100) := nI_add a 100
theorem xp_100 (a : Nat) : (100 : Int32) + nI a = nI (100 + a) := nI_add 100 a
theorem xu_100 (a : Nat) : (100 : Int32) * nI a = nI (100 * a) := pk_mul 100 a
theorem xl_100 {a : Nat} (h : a < 2147483648) : (nI a < 100) = (a < 100) := xi_lt h (by decide)
theorem xg_100 {a : Nat} (h : a < 2147483648) : ((100 : Int32) < nI a) = (100 < a) := xi_lt (by decide) h
theorem xle_100 {a : Nat} (h : a < 2147483648) : (nI a ≤ 100) = (a ≤ 100) := xi_le h (by decide)
theorem xge_100 {a : Nat} (h : a < 2147483648) : ((100 : Int32) ≤ nI a) = (100 ≤ a) := xi_le (by decide) h
theorem xq_100 {a : Nat} (h : a < 2147483648) : (nI a = 100) = (a = 100) := xi_eq h (by decide)
theorem xs_100 {a : Nat} (h : 100 ≤ a) : nI a - 100 = nI (a - 100) := xi_sub h
theorem xa_101 (a : Nat) : nI a + 101 = nI (a + 101) := nI_add a 101
theorem xp_101 (a : Nat) : (101 : Int32) + nI a = nI (101 + a) := nI_add 101 a
theorem xu_101 (a : Nat) : (101 : Int32) * nI a = nI (101 * a) := pk_mul 101 a
theorem xl_101 {a : Nat} (h : a < 2147483648) : (nI a < 101) = (a < 101) := xi_lt h (by decide)
theorem xg_101 {a : Nat} (h : a < 2147483648) : ((101 : Int32) < nI a) = (101 < a) := xi_lt (by decide) h
theorem xle_101 {a : Nat} (h : a < 2147483648) : (nI a ≤ 101) = (a ≤ 101) := xi_le h (by decide)
theorem xge_101 {a : Nat} (h : a < 2147483648) : ((101 : Int32) ≤ nI a) = (101 ≤ a) := xi_le (by decide) h
theorem xq_101 {a : Nat} (h : a < 2147483648) : (nI a = 101) = (a = 101) := xi_eq h (by decide)
theorem xs_101 {a : Nat} (h : 101 ≤ a) : nI a - 101 = nI (a - 101) := xi_sub h
theorem xa_120 (a : Nat) : nI a + 120 = nI (a + 120) := nI_add a 120
theorem xp_120 (a : Nat) : (120 : Int32) + nI a = nI (120 + a) := nI_add 120 a
theorem xu_120 (a : Nat) : (120 : Int32) * nI a = nI (120 * a) := pk_mul 120 a
theorem xl_120 {a : Nat} (h : a < 2147483648) : (nI a < 120) = (a < 120) := xi_lt h (by decide)
theorem xg_120 {a : Nat} (h : a < 2147483648) : ((120 : Int32) < nI a) = (120 < a) := xi_lt (by decide) h
theorem xle_120 {a : Nat} (h : a < 2147483648) : (nI a ≤ 120) = (a ≤ 120) := xi_le h (by decide)
theorem xge_120 {a : Nat} (h : a < 2147483648) : ((120 : Int32) ≤ nI a) = (120 ≤ a) := xi_le (by decide) h
theorem xq_120 {a : Nat} (h : a < 2147483648) : (nI a = 120) = (a = 120) := xi_eq h (by decide)
theorem xs_120 {a : Nat} (h : 120 ≤ a) : nI a - 120 = nI (a - 120) := xi_sub h
theorem xa_240 (a : Nat) : nI a + 240 = nI (a + 240) := nI_add a 240
theorem xp_240 (a : Nat) : (240 : Int32) + nI a = nI (240 + a) := nI_add 240 a
theorem xu_240 (a : Nat) : (240 : Int32) * nI a = nI (240 * a) := pk_mul 240 a
theorem xl_240 {a : Nat} (h : a < 2147483648) : (nI a < 240) = (a < 240) := xi_lt h (by decide)
theorem xg_240 {a : Nat} (h : a < 2147483648) : ((240 : Int32) < nI a) = (240 < a) := xi_lt (by decide) h
theorem xle_240 {a : Nat} (h : a < 2147483648) : (nI a ≤ 240) = (a ≤ 240) := xi_le h (by decide)
theorem xge_240 {a : Nat} (h : a < 2147483648) : ((240 : Int32) ≤ nI a) = (240 ≤ a) := xi_le (by decide) h
theorem xq_240 {a : Nat} (h : a < 2147483648) : (nI a = 240) = (a = 240) := xi_eq h (by decide)
theorem xs_240 {a : Nat} (h : 240 ≤ a) : nI a - 240 = nI (a - 240) := xi_sub h
theorem xa_241 (a : Nat) : nI a + 241 = nI (a + 241) := nI_add a 241
theorem xp_241 (a : Nat) : (241 : Int32) + nI a = nI (241 + a) := nI_add 241 a
theorem xu_241 (a : Nat) : (241 : Int32) * nI a = nI (241 * a) := pk_mul 241 a
theorem xl_241 {a : Nat} (h : a < 2147483648) : (nI a < 241) = (a < 241) := xi_lt h (by decide)
theorem xg_241 {a : Nat} (h : a < 2147483648) : ((241 : Int32) < nI a) = (241 < a) := xi_lt (by decide) h
theorem xle_241 {a : Nat} (h : a < 2147483648) : (nI a ≤ 241) = (a ≤ 241) := xi_le h (by decide)
theorem xge_241 {a : Nat} (h : a < 2147483648) : ((241 : Int32) ≤ nI a) = (241 ≤ a) := xi_le (by decide) h
theorem xq_241 {a : Nat} (h : a < 2147483648) : (nI a = 241) = (a = 241) := xi_eq h (by decide)
theorem xs_241 {a : Nat} (h : 241 ≤ a) : nI a - 241 = nI (a - 241) := xi_sub h
theorem xa_243 (a : Nat) : nI a + 243 = nI (a + 243) := nI_add a 243
theorem xp_243 (a : Nat) : (243 : Int32) + nI a = nI (243 + a) := nI_add 243 a
theorem xu_243 (a : Nat) : (243 : Int32) * nI a = nI (243 * a) := pk_mul 243 a
theorem xl_243 {a : Nat} (h : a < 2147483648) : (nI a < 243) = (a < 243) := xi_lt h (by decide)
theorem xg_243 {a : Nat} (h : a < 2147483648) : ((243 : Int32) < nI a) = (243 < a) := xi_lt (by decide) h
theorem xle_243 {a : Nat} (h : a < 2147483648) : (nI a ≤ 243) = (a ≤ 243) := xi_le h (by decide)
theorem xge_243 {a : Nat} (h : a < 2147483648) : ((243 : Int32) ≤ nI a) = (243 ≤ a) := xi_le (by decide) h
theorem xq_243 {a : Nat} (h : a < 2147483648) : (nI a = 243) = (a = 243) := xi_eq h (by decide)
theorem xs_243 {a : Nat} (h : 243 ≤ a) : nI a - 243 = nI (a - 243) := xi_sub h
theorem xa_729 (a : Nat) : nI a + 729 = nI (a + 729) := nI_add a 729
theorem xp_729 (a : Nat) : (729 : Int32) + nI a = nI (729 + a) := nI_add 729 a
theorem xu_729 (a : Nat) : (729 : Int32) * nI a = nI (729 * a) := pk_mul 729 a
theorem xl_729 {a : Nat} (h : a < 2147483648) : (nI a < 729) = (a < 729) := xi_lt h (by decide)
theorem xg_729 {a : Nat} (h : a < 2147483648) : ((729 : Int32) < nI a) = (729 < a) := xi_lt (by decide) h
theorem xle_729 {a : Nat} (h : a < 2147483648) : (nI a ≤ 729) = (a ≤ 729) := xi_le h (by decide)
theorem xge_729 {a : Nat} (h : a < 2147483648) : ((729 : Int32) ≤ nI a) = (729 ≤ a) := xi_le (by decide) h
theorem xq_729 {a : Nat} (h : a < 2147483648) : (nI a = 729) = (a = 729) := xi_eq h (by decide)
theorem xs_729 {a : Nat} (h : 729 ≤ a) : nI a - 729 = nI (a - 729) := xi_sub h
theorem xa_999 (a : Nat) : nI a + 999 = nI (a + 999) := nI_add a 999
theorem xp_999 (a : Nat) : (999 : Int32) + nI a = nI (999 + a) := nI_add 999 a
theorem xu_999 (a : Nat) : (999 : Int32) * nI a = nI (999 * a) := pk_mul 999 a
theorem xl_999 {a : Nat} (h : a < 2147483648) : (nI a < 999) = (a < 999) := xi_lt h (by decide)
theorem xg_999 {a : Nat} (h : a < 2147483648) : ((999 : Int32) < nI a) = (999 < a) := xi_lt (by decide) h
theorem xle_999 {a : Nat} (h : a < 2147483648) : (nI a ≤ 999) = (a ≤ 999) := xi_le h (by decide)
theorem xge_999 {a : Nat} (h : a < 2147483648) : ((999 : Int32) ≤ nI a) = (999 ≤ a) := xi_le (by decide) h
theorem xq_999 {a : Nat} (h : a < 2147483648) : (nI a = 999) = (a = 999) := xi_eq h (by decide)
theorem xs_999 {a : Nat} (h : 999 ≤ a) : nI a - 999 = nI (a - 999) := xi_sub h
theorem xa_1000 (a : Nat) : nI a + 1000 = nI (a + 1000) := nI_add a 1000
theorem xp_1000 (a : Nat) : (1000 : Int32) + nI a = nI (1000 + a) := nI_add 1000 a
theorem xu_1000 (a : Nat) : (1000 : Int32) * nI a = nI (1000 * a) := pk_mul 1000 a
theorem xl_1000 {a : Nat} (h : a < 2147483648) : (nI a < 1000) = (a < 1000) := xi_lt h (by decide)
theorem xg_1000 {a : Nat} (h : a < 2147483648) : ((1000 : Int32) < nI a) = (1000 < a) := xi_lt (by decide) h
theorem xle_1000 {a : Nat} (h : a < 2147483648) : (nI a ≤ 1000) = (a ≤ 1000) := xi_le h (by decide)
theorem xge_1000 {a : Nat} (h : a < 2147483648) : ((1000 : Int32) ≤ nI a) = (1000 ≤ a) := xi_le (by decide) h
theorem xq_1000 {a : Nat} (h : a < 2147483648) : (nI a = 1000) = (a = 1000) := xi_eq h (by decide)
theorem xs_1000 {a : Nat} (h : 1000 ≤ a) : nI a - 1000 = nI (a - 1000) := xi_sub h
theorem xa_1002 (a : Nat) : nI a + 1002 = nI (a + 1002) := nI_add a 1002
theorem xp_1002 (a : Nat) : (1002 : Int32) + nI a = nI (1002 + a) := nI_add 1002 a
theorem xu_1002 (a : Nat) : (1002 : Int32) * nI a = nI (1002 * a) := pk_mul 1002 a
theorem xl_1002 {a : Nat} (h : a < 2147483648) : (nI a < 1002) = (a < 1002) := xi_lt h (by decide)
theorem xg_1002 {a : Nat} (h : a < 2147483648) : ((1002 : Int32) < nI a) = (1002 < a) := xi_lt (by decide) h
theorem xle_1002 {a : Nat} (h : a < 2147483648) : (nI a ≤ 1002) = (a ≤ 1002) := xi_le h (by decide)
theorem xge_1002 {a : Nat} (h : a < 2147483648) : ((1002 : Int32) ≤ nI a) = (1002 ≤ a) := xi_le (by decide) h
theorem xq_1002 {a : Nat} (h : a < 2147483648) : (nI a = 1002) = (a = 1002) := xi_eq h (by decide)
theorem xs_1002 {a : Nat} (h : 1002 ≤ a) : nI a - 1002 = nI (a - 1002) := xi_sub h
theorem xa_1100 (a : Nat) : nI a + 1100 = nI (a + 1100) := nI_add a 1100
theorem xp_1100 (a : Nat) : (1100 : Int32) + nI a = nI (1100 + a) := nI_add 1100 a
theorem xu_1100 (a : Nat) : (1100 : Int32) * nI a = nI (1100 * a) := pk_mul 1100 a
theorem xl_1100 {a : Nat} (h : a < 2147483648) : (nI a < 1100) = (a < 1100) := xi_lt h (by decide)
theorem xg_1100 {a : Nat} (h : a < 2147483648) : ((1100 : Int32) < nI a) = (1100 < a) := xi_lt (by decide) h
theorem xle_1100 {a : Nat} (h : a < 2147483648) : (nI a ≤ 1100) = (a ≤ 1100) := xi_le h (by decide)
theorem xge_1100 {a : Nat} (h : a < 2147483648) : ((1100 : Int32) ≤ nI a) = (1100 ≤ a) := xi_le (by decide) h
theorem xq_1100 {a : Nat} (h : a < 2147483648) : (nI a = 1100) = (a = 1100) := xi_eq h (by decide)
theorem xs_1100 {a : Nat} (h : 1100 ≤ a) : nI a - 1100 = nI (a - 1100) := xi_sub h
theorem xa_1176 (a : Nat) : nI a + 1176 = nI (a + 1176) := nI_add a 1176
theorem xp_1176 (a : Nat) : (1176 : Int32) + nI a = nI (1176 + a) := nI_add 1176 a
theorem xu_1176 (a : Nat) : (1176 : Int32) * nI a = nI (1176 * a) := pk_mul 1176 a
theorem xl_1176 {a : Nat} (h : a < 2147483648) : (nI a < 1176) = (a < 1176) := xi_lt h (by decide)
theorem xg_1176 {a : Nat} (h : a < 2147483648) : ((1176 : Int32) < nI a) = (1176 < a) := xi_lt (by decide) h
theorem xle_1176 {a : Nat} (h : a < 2147483648) : (nI a ≤ 1176) = (a ≤ 1176) := xi_le h (by decide)
theorem xge_1176 {a : Nat} (h : a < 2147483648) : ((1176 : Int32) ≤ nI a) = (1176 ≤ a) := xi_le (by decide) h
theorem xq_1176 {a : Nat} (h : a < 2147483648) : (nI a = 1176) = (a = 1176) := xi_eq h (by decide)
theorem xs_1176 {a : Nat} (h : 1176 ≤ a) : nI a - 1176 = nI (a - 1176) := xi_sub h
theorem xa_1232 (a : Nat) : nI a + 1232 = nI (a + 1232) := nI_add a 1232
theorem xp_1232 (a : Nat) : (1232 : Int32) + nI a = nI (1232 + a) := nI_add 1232 a
theorem xu_1232 (a : Nat) : (1232 : Int32) * nI a = nI (1232 * a) := pk_mul 1232 a
theorem xl_1232 {a : Nat} (h : a < 2147483648) : (nI a < 1232) = (a < 1232) := xi_lt h (by decide)
theorem xg_1232 {a : Nat} (h : a < 2147483648) : ((1232 : Int32) < nI a) = (1232 < a) := xi_lt (by decide) h
theorem xle_1232 {a : Nat} (h : a < 2147483648) : (nI a ≤ 1232) = (a ≤ 1232) := xi_le h (by decide)
theorem xge_1232 {a : Nat} (h : a < 2147483648) : ((1232 : Int32) ≤ nI a) = (1232 ≤ a) := xi_le (by decide) h
theorem xq_1232 {a : Nat} (h : a < 2147483648) : (nI a = 1232) = (a = 1232) := xi_eq h (by decide)
theorem xs_1232 {a : Nat} (h : 1232 ≤ a) : nI a - 1232 = nI (a - 1232) := xi_sub h
theorem xa_1446 (a : Nat) : nI a + 1446 = nI (a + 1446) := nI_add a 1446
theorem xp_1446 (a : Nat) : (1446 : Int32) + nI a = nI (1446 + a) := nI_add 1446 a
theorem xu_1446 (a : Nat) : (1446 : Int32) * nI a = nI (1446 * a) := pk_mul 1446 a
theorem xl_1446 {a : Nat} (h : a < 2147483648) : (nI a < 1446) = (a < 1446) := xi_lt h (by decide)
theorem xg_1446 {a : Nat} (h : a < 2147483648) : ((1446 : Int32) < nI a) = (1446 < a) := xi_lt (by decide) h
theorem xle_1446 {a : Nat} (h : a < 2147483648) : (nI a ≤ 1446) = (a ≤ 1446) := xi_le h (by decide)
theorem xge_1446 {a : Nat} (h : a < 2147483648) : ((1446 : Int32) ≤ nI a) = (1446 ≤ a) := xi_le (by decide) h
theorem xq_1446 {a : Nat} (h : a < 2147483648) : (nI a = 1446) = (a = 1446) := xi_eq h (by decide)
theorem xs_1446 {a : Nat} (h : 1446 ≤ a) : nI a - 1446 = nI (a - 1446) := xi_sub h
theorem xa_4096 (a : Nat) : nI a + 4096 = nI (a + 4096) := nI_add a 4096
theorem xp_4096 (a : Nat) : (4096 : Int32) + nI a = nI (4096 + a) := nI_add 4096 a
theorem xu_4096 (a : Nat) : (4096 : Int32) * nI a = nI (4096 * a) := pk_mul 4096 a
theorem xl_4096 {a : Nat} (h : a < 2147483648) : (nI a < 4096) = (a < 4096) := xi_lt h (by decide)
theorem xg_4096 {a : Nat} (h : a < 2147483648) : ((4096 : Int32) < nI a) = (4096 < a) := xi_lt (by decide) h
theorem xle_4096 {a : Nat} (h : a < 2147483648) : (nI a ≤ 4096) = (a ≤ 4096) := xi_le h (by decide)
theorem xge_4096 {a : Nat} (h : a < 2147483648) : ((4096 : Int32) ≤ nI a) = (4096 ≤ a) := xi_le (by decide) h
theorem xq_4096 {a : Nat} (h : a < 2147483648) : (nI a = 4096) = (a = 4096) := xi_eq h (by decide)
theorem xs_4096 {a : Nat} (h : 4096 ≤ a) : nI a - 4096 = nI (a - 4096) := xi_sub h
theorem xa_9999 (a : Nat) : nI a + 9999 = nI (a + 9999) := nI_add a 9999
theorem xp_9999 (a : Nat) : (9999 : Int32) + nI a = nI (9999 + a) := nI_add 9999 a
theorem xu_9999 (a : Nat) : (9999 : Int32) * nI a = nI (9999 * a) := pk_mul 9999 a
theorem xl_9999 {a : Nat} (h : a < 2147483648) : (nI a < 9999) = (a < 9999) := xi_lt h (by decide)
theorem xg_9999 {a : Nat} (h : a < 2147483648) : ((9999 : Int32) < nI a) = (9999 < a) := xi_lt (by decide) h
theorem xle_9999 {a : Nat} (h : a < 2147483648) : (nI a ≤ 9999) = (a ≤ 9999) := xi_le h (by decide)
theorem xge_9999 {a : Nat} (h : a < 2147483648) : ((9999 : Int32) ≤ nI a) = (9999 ≤ a) := xi_le (by decide) h
theorem xq_9999 {a : Nat} (h : a < 2147483648) : (nI a = 9999) = (a = 9999) := xi_eq h (by decide)
theorem xs_9999 {a : Nat} (h : 9999 ≤ a) : nI a - 9999 = nI (a - 9999) := xi_sub h
theorem xa_0 (a : Nat) : nI a + 0 = nI a := nI_add a 0
theorem xle_0 {a : Nat} (h : a < 2147483648) : (nI a ≤ 0) = (a ≤ 0) := xi_le h (by decide)
theorem xg_0 {a : Nat} (h : a < 2147483648) : ((0 : Int32) < nI a) = (0 < a) := xi_lt (by decide) h
theorem xq_0 {a : Nat} (h : a < 2147483648) : (nI a = 0) = (a = 0) := xi_eq h (by decide)
