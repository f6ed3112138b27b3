/-! Months: both answer alike. -/
theorem xc_Rq {S : dm_Sc} {d mi : Nat} {as : List Value} {σ : dm_St} {v : Option Value} {g : Nat × Nat} {P : (Nat → Nat → Int32) → (Nat → Nat → Int64) → (Nat → Nat → Value) → Prop} (h : xc S d mi as σ (Rq v g P)) : ∃ I' L' R', P I' L' R' ∧ ∀ Q, (xc S d mi as σ Q ↔ Q v (Mk g I' L' R')) := by
  obtain ⟨N, r, σ', hr, h1, I', L', R', h2, h3⟩ := h
  exact ⟨I', L', R', h3, fun Q => xc_iff ⟨N, r, σ', hr, h1, h2⟩⟩
theorem xc_RqI {S : dm_Sc} {d mi : Nat} {as : List Value} {σ : dm_St} {v : Option Value} {g : Nat × Nat} {P : (Nat → Nat → Int32) → (Nat → Nat → Int64) → (Nat → Nat → Value) → Prop} (h : ∀ Q : Option Value → dm_St → Prop, (∀ I' L' R', P I' L' R' → Q v (Mk g I' L' R')) → xc S d mi as σ Q) : xc S d mi as σ (Rq v g P) := h _ (fun I' L' R' hp => ⟨rfl, I', L', R', rfl, hp⟩)
theorem aM_ok {cs : Nat → Nat} {sz : Nat} {c : Cu} (h : aM cs sz c = true) : okW (aTw cs sz c) := (tW_ok (of_decide_eq_true h).2.1).1
section MLK
variable {cs : Nat → Nat} {sz : Nat} {lkT lkR lkT' lkR' : Lk}
theorem aSee_e {lk lk' : Lk} (h : ∀ w, okW w → lk w = lk' w) (c : Cu) : aSee cs sz (lk (aTw cs sz c)) c = aSee cs sz (lk' (aTw cs sz c)) c := by
  by_cases z : aM cs sz c = true
  · rw [h _ (aM_ok z)]
  · unfold aSee
    rw [if_neg z, if_neg z]
theorem aL1_e (hT : ∀ w, okW w → lkT w = lkT' w) (w : Nat) (c : Cu) : aL1 cs sz lkT w c = aL1 cs sz lkT' w c := by
  unfold aL1
  rw [aSee_e hT c]
theorem aL2_e (hR : ∀ w, okW w → lkR w = lkR' w) (w : Nat) (c : Cu) : aL2 cs sz lkR w c = aL2 cs sz lkR' w c := by
  unfold aL2
  rw [aSee_e hR c]
theorem aLn_e (hT : ∀ w, okW w → lkT w = lkT' w) (hR : ∀ w, okW w → lkR w = lkR' w) (w : Nat) (c : Cu) : aLn cs sz lkT lkR w c = aLn cs sz lkT' lkR' w c := by
  unfold aLn
  rw [aL1_e hT, aL2_e hR]
theorem aMs_e (hT : ∀ w, okW w → lkT w = lkT' w) (hR : ∀ w, okW w → lkR w = lkR' w) (m : Ms) : aMs cs sz lkT lkR m = aMs cs sz lkT' lkR' m := by
  unfold aMs
  cases aWH cs sz 19 6 m.1 with
  | none => rfl
  | some w => dsimp only; rw [aLn_e hT hR]
theorem aMo_e (hT : ∀ w, okW w → lkT w = lkT' w) (hR : ∀ w, okW w → lkR w = lkR' w) : ∀ (f : Nat) (m : Ms), aMo cs sz lkT lkR f m = aMo cs sz lkT' lkR' f m
  | 0, m => rfl
  | f + 1, m => by
    show (if aO cs sz m.1 = true then m else aMo cs sz lkT lkR f (aMs cs sz lkT lkR m)) = (if aO cs sz m.1 = true then m else aMo cs sz lkT' lkR' f (aMs cs sz lkT' lkR' m))
    rw [aMs_e hT hR, aMo_e hT hR f]
def MLo (cs : Nat → Nat) (sz : Nat) (lkT lkR : Lk) (m : Ms) : Prop := m.1.2 = 0 → ∀ i, i < m.2.1 → (aLn cs sz lkT lkR (m.2.2 i).1 (m.2.2 i).2).2 = 0
theorem MLo_s {m : Ms} (h : MLo cs sz lkT lkR m) (h0 : m.1.2 = 0) : MLo cs sz lkT lkR (aMs cs sz lkT lkR m) := by
  unfold aMs
  cases aWH cs sz 19 6 m.1 with
  | none => exact fun y => absurd y (aFl_ne (by decide))
  | some w =>
    dsimp only
    split
    · exact fun y => absurd y (aFl_ne (by decide))
    · intro y i hi
      dsimp only at y hi ⊢
      unfold updM
      by_cases z : i = m.2.1
      · rw [if_pos z]; exact y
      · rw [if_neg z]; exact h h0 i (by omega)
theorem MLo_o : ∀ (f : Nat) (m : Ms), MLo cs sz lkT lkR m → MLo cs sz lkT lkR (aMo cs sz lkT lkR f m)
  | 0, m, h => h
  | f + 1, m, h => by
    show MLo cs sz lkT lkR (if aO cs sz m.1 = true then m else aMo cs sz lkT lkR f (aMs cs sz lkT lkR m))
    by_cases z : aO cs sz m.1 = true
    · rw [if_pos z]; exact h
    · rw [if_neg z]
      exact MLo_o f _ (MLo_s h (Classical.byContradiction fun y => z (decide_eq_true (Or.inl y))))
theorem aLn_ok {w : Nat} {c : Cu} (h : (aLn cs sz lkT lkR w c).2 = 0) : (¬ w = 3 → ¬ w = 4 → okW (aTw cs sz c)) ∧ (w = 5 → okW (aTw cs sz (aL1 cs sz lkT w c))) := by
  have h1 : (aL2 cs sz lkR w (aL1 cs sz lkT w c)).2 = 0 := aNS_0 h
  have h2 : (aL1 cs sz lkT w c).2 = 0 := by
    unfold aL2 at h1
    split at h1
    · exact aNN_0 h1
    · split at h1
      · exact aNN_0 h1
      · split at h1
        · rw [aAd_0] at h1; exact (aSee_0 h1).1
        · exact h1
  refine ⟨fun n3 n4 => ?_, fun e5 => ?_⟩
  · unfold aL1 at h2
    rw [if_neg (by omega), aAd_0] at h2
    exact aM_ok (aSee_0 h2).2.1
  · unfold aL2 at h1
    rw [if_neg (by omega), if_neg (by omega), if_pos e5, aAd_0] at h1
    exact aM_ok (aSee_0 h1).2.1
end MLK
section BND
variable {cs : Nat → Nat} {sz : Nat}
theorem aFl_b {w : Nat} {c : Cu} (hs : sz ≤ 1000) (hw : w ≤ 5) (h : c.2 ≤ 20000) : (aFl cs sz w c).2 ≤ 20000 := by
  unfold aFl
  split
  · have := sP_le cs sz c.1
    dsimp only
    omega
  · exact h
theorem aAd_b {c : Cu} (h : c.2 ≤ 20000) : (aAd c).2 ≤ 20000 := by rw [aAd_0]; exact h
theorem aNS_b {ch : Nat} {c : Cu} (hs : sz ≤ 1000) (h : c.2 ≤ 20000) : (aNS cs sz ch c).2 ≤ 20000 := by
  unfold aNS
  split
  · exact aAd_b h
  · exact aFl_b hs (by decide) h
theorem aNW_b {j : Nat} {c : Cu} (hs : sz ≤ 1000) (h : c.2 ≤ 20000) : (aNW cs sz j c).2 ≤ 20000 := by
  unfold aNW
  split
  · exact aAd_b h
  · exact aFl_b hs (by decide) h
theorem aNN_b {lo hi : Nat} {c : Cu} (hs : sz ≤ 1000) (h : c.2 ≤ 20000) : (aNN cs sz lo hi c).2 ≤ 20000 := by
  unfold aNN
  split
  · split
    · exact aAd_b h
    · exact aFl_b hs (by decide) h
  · exact aFl_b hs (by decide) h
theorem aSee_b {o : Option Nat} {c : Cu} (hs : sz ≤ 1000) (h : c.2 ≤ 20000) : (aSee cs sz o c).2 ≤ 20000 := by
  unfold aSee
  split
  · cases o with
    | none => exact aFl_b hs (by decide) h
    | some r => exact h
  · exact aFl_b hs (by decide) h
theorem aLn_b {lkT lkR : Lk} {w : Nat} {c : Cu} (hs : sz ≤ 1000) (h : c.2 ≤ 20000) : (aLn cs sz lkT lkR w c).2 ≤ 20000 := by
  have h1 : (aL1 cs sz lkT w c).2 ≤ 20000 := by
    unfold aL1
    split
    · exact h
    · exact aAd_b (aSee_b hs h)
  unfold aLn
  refine aNS_b hs ?_
  unfold aL2
  split
  · exact aNN_b hs h1
  · split
    · exact aNN_b hs h1
    · split
      · exact aAd_b (aSee_b hs h1)
      · exact h1
theorem aMo_b {lkT lkR : Lk} (hs : sz ≤ 1000) : ∀ (f : Nat) (m : Ms), m.1.2 ≤ 20000 → (aMo cs sz lkT lkR f m).1.2 ≤ 20000
  | 0, m, h => h
  | f + 1, m, h => by
    show (if aO cs sz m.1 = true then m else aMo cs sz lkT lkR f (aMs cs sz lkT lkR m)).1.2 ≤ 20000
    split
    · exact h
    · refine aMo_b hs f _ ?_
      unfold aMs
      cases aWH cs sz 19 6 m.1 with
      | none => exact aFl_b hs (by decide) h
      | some w =>
        dsimp only
        split
        · exact aFl_b hs (by decide) h
        · exact aLn_b hs (aAd_b h)
end BND
theorem lkL_lt {f : Nat → Int64} {n r : Nat} {w : List Nat} (h : lkL f n w = some r) : r < n := by
  have := (fdL_some n 0 r h).2.1
  omega
/-- the lines that both have read -/
theorem MON_of {cs : Nat → Nat} {sz : Nat} {lkT lkR lkT' lkR' : Lk} {f g : Nat → Int64} {nr n mo : Nat} {I : Nat → Nat → Int32} {m : Ms} (eT : lkT = lkL f n) (eR : lkR = lkL g nr) (hT : ∀ w, okW w → lkT w = lkT' w) (hR : ∀ w, okW w → lkR w = lkR' w) (h0 : m.1.2 = 0) (ml : MLo cs sz lkT lkR m) (pc : PMc cs sz lkT lkR mo m I) (p0 : I 277 0 = nI m.2.1) (pm : PMm cs sz lkT' lkR' 1 m I) : MON I mo nr n := by
  refine ⟨m.2.1, pm.1, pc.1, p0, fun l hl => ?_⟩
  obtain ⟨c1, c2, c3⟩ := pc.2.2 l hl
  obtain ⟨m1, m2, m3⟩ := pm.2 l hl
  obtain ⟨x1, x2, x3, x4⟩ := c3 h0
  obtain ⟨y1, y2, y3, y4⟩ := m3 h0
  obtain ⟨k1, k2⟩ := aLn_ok (ml h0 l hl)
  have e1 : aL1 cs sz lkT' (m.2.2 l).1 (m.2.2 l).2 = aL1 cs sz lkT (m.2.2 l).1 (m.2.2 l).2 := (aL1_e hT _ _).symm
  rw [e1] at y2 y4
  rw [show 1 + 1 + 3 * l = 2 + 3 * l by omega] at y1 y2 y3 y4
  rw [show 1 + 2 + 3 * l = 3 + 3 * l by omega] at y2 y3 y4
  generalize (m.2.2 l).1 = w at *
  generalize (m.2.2 l).2 = c at *
  refine ⟨w, c2, c1, m1, fun e => ?_, fun n3 n4 => ?_, fun e => ?_, fun e => ?_⟩
  · obtain ⟨a1, a2, a3⟩ := x3 e
    obtain ⟨b1, -, -⟩ := y3 e
    rw [if_pos e] at b1
    exact ⟨_, a2, a3, a1, b1⟩
  · obtain ⟨r, a1, a2⟩ := x1 n3 n4
    obtain ⟨r', b1, b2⟩ := y1 n3 n4
    rw [← hT _ (k1 n3 n4), a1] at b1
    cases b1
    rw [eT] at a1
    exact ⟨r, lkL_lt a1, a2, b2⟩
  · obtain ⟨a1, a2, a3⟩ := x2 e
    obtain ⟨b1, -, -⟩ := y2 e
    rw [if_neg (by omega)] at b1
    exact ⟨_, a2, a3, a1, b1⟩
  · obtain ⟨r, a1, a2⟩ := x4 e
    obtain ⟨r', b1, b2⟩ := y4 e
    rw [if_neg (by omega)] at b2
    rw [← hR _ (k2 e), a1] at b1
    cases b1
    rw [eR] at a1
    exact ⟨r, lkL_lt a1, a2, b2⟩
theorem TAP.cs {I : Nat → Nat → Int32} (t : TAP I) : ∃ cs sz, TPe I cs sz ∧ sz ≤ 1000 ∧ I 264 2 = nI sz ∧ ∀ i, i < sz → I 265 i = nI (cs i) ∧ cs i < 127 := by
  obtain ⟨sz, h1, h2, h3, h4⟩ := t
  have h5 : ∀ i, i < sz → I 2 i = nI ((I 2 i).toNatClampNeg) ∧ I 265 i = nI ((I 2 i).toNatClampNeg) ∧ (I 2 i).toNatClampNeg < 127 := fun i hi => by
    obtain ⟨c, c1, c2, c3⟩ := h4 i hi
    rw [c2, xi_cl (by omega)]
    exact ⟨rfl, c3, by omega⟩
  exact ⟨fun i => (I 2 i).toNatClampNeg, sz, ⟨h1, h2, fun i hi => ⟨(h5 i hi).1, (h5 i hi).2.2⟩⟩, h1, h3, fun i hi => ⟨(h5 i hi).2.1, (h5 i hi).2.2⟩⟩
theorem TAP.no {I : Nat → Nat → Int32} (h1 : I 1 1 = 0) (h2 : I 264 2 = 0) : TAP I := ⟨0, Nat.zero_le _, h1, h2, fun i hi => absurd hi (Nat.not_lt_zero i)⟩
theorem Mo2 {mo : Nat} (h : mo ∈ ly_Mo) : mo = 65 ∨ mo = 69 := by simpa [ly_Mo] using h
theorem Mo_o {mo : Nat} (h : mo ∈ ly_Mo) : 134 - mo ∈ ly_Mo := by rcases Mo2 h with rfl | rfl <;> decide
theorem Rl.mon {h mo mo' nr n ne K : Nat} {D W : Fml} {I I2 : Nat → Nat → Int32} {L L2 : Nat → Nat → Int64} {R R2 : Nat → Nat → Value} (r : Rl h mo nr n ne K D W I L R) (f : ∀ p, ¬ p = 1 → ¬ (65 ≤ p ∧ p < 73) → ¬ p = 264 → ¬ p = 266 → ¬ p = 267 → ¬ p = 277 → I2 p = I p) (f3 : ∀ i, ¬ i = 0 → ¬ i = 2 → ¬ i = 3 → ¬ i = 7 → ¬ i = 8 → I2 264 i = I 264 i) (fl : ∀ p, ¬ p = 1 → ¬ p = 268 → L2 p = L p) (hR : LR R2) (r1 : R2 0 1 = R 0 1) (r2 : R2 0 2 = R 0 2) (hm : RlM mo' nr n I2 R2) (ht : TAP I2) : Rl h mo' nr n ne K D W I2 L2 R2 := by
  obtain ⟨a, b, c, d, e, u, m, -, k⟩ := r
  have fp : ∀ p, 2 ≤ p → p < 65 → I2 p = I p := fun p h1 h2 => f p (by omega) (by omega) (by omega) (by omega) (by omega) (by omega)
  have fr : ∀ p, 73 ≤ p → p < 264 → I2 p = I p := fun p h1 h2 => f p (by omega) (by omega) (by omega) (by omega) (by omega) (by omega)
  have fq : ∀ p, 268 ≤ p → ¬ p = 277 → I2 p = I p := fun p h1 h2 => f p (by omega) (by omega) (by omega) (by omega) (by omega) (by omega)
  have f0 : I2 0 = I 0 := f 0 (by omega) (by omega) (by omega) (by omega) (by omega) (by omega)
  obtain ⟨⟨x1, x2, x3⟩, x4⟩ := b.fr (R' := R) (L' := L2) (I' := I2) (fun p h1 h2 _ => fp p (by omega) (by omega)) (fq _ (by omega) (by omega)) (fq _ (by omega) (by omega)) (fq _ (by omega) (by omega)) (fq _ (by omega) (by omega)) (f3 _ (by decide) (by decide) (by decide) (by decide) (by decide)) (f3 _ (by decide) (by decide) (by decide) (by decide) (by decide)) (fun p h1 h2 => fl p (by omega) (by omega)) (fl _ (by omega) (by omega)) rfl
  refine ⟨hR, ⟨⟨x1, by rw [r1]; exact x2, by rw [r2]; exact x3⟩, x4⟩, hm, d.fr (fun p h1 h2 => fr p (by omega) (by omega)) (by rw [fq _ (by omega) (by omega)]) (fun i _ => by rw [fq _ (by omega) (by omega)]), e.fr (fun p h1 h2 => fr p (by omega) (by omega)) (fun i _ _ => by rw [fq _ (by omega) (by omega)]), u.fr f0 (f3 _ (by decide) (by decide) (by decide) (by decide) (by decide)) (by rw [fq _ (by omega) (by omega)]) (fun p h1 h2 => fr p (by omega) (by omega)) (fun i _ _ => by rw [fq _ (by omega) (by omega)]), m.fr (by rw [f0]) (fq _ (by omega) (by omega)) (by rw [fq _ (by omega) (by omega)]) (fun p h1 h2 => fr p (by omega) (by omega)) (fun i _ _ => by rw [fq _ (by omega) (by omega)]), ht, ?_⟩
  refine ⟨?_, ?_, ?_⟩
  · rw [fr 96 (by omega) (by omega), fr 97 (by omega) (by omega), fr 98 (by omega) (by omega)]; exact k.1
  · rw [fp 26 (by omega) (by omega), fp 30 (by omega) (by omega), fp 57 (by omega) (by omega), fp 61 (by omega) (by omega)]; exact k.2.1
  · rw [fl 269 (by omega) (by omega)]; exact k.2.2
theorem fr03 : ly_free 0 3 = true ∧ ly_free 0 4 = true := by decide +kernel
theorem pb_months {S : dm_Sc} {d : Nat} : Pb S d 113 179 [] := by
  intro K g σ hK hA
  obtain ⟨h, mo, nr, n, ne, D, W, I, L, R, rfl, r⟩ := hA
  obtain ⟨hR, ⟨⟨hh, h1, h2⟩, wH, hC, hD, hW, -, -, hbr, -⟩, hM, ⟨wb, cp⟩, hS, ⟨cnt, nx, u1, u2, u3, u4, u5, u6⟩, hMk, hT, hCo⟩ := id r
  have hn : n ≤ 6 := wH.1.2.2.2.2.1
  have h6 : nr ≤ 6 := wH.1.2.2.2.1
  have hN : I 270 1 = nI n := wH.1.2.1
  have hE : ¬ I 270 5 = 0 := by
    obtain ⟨ev, e1, e30, ee⟩ := wH.2.1.2.2
    rw [ee, xq_0 (by omega)]; omega
  obtain ⟨⟨hmo, r3, r4⟩, mon⟩ := hM
  obtain ⟨nm, hnm, hm18, hnms⟩ := r.2.1.2.2.2.2.2.2.2.2
  obtain ⟨kd, hkd, hlk⟩ := nm_told h6 hn hnms
  obtain ⟨cs, sz, tp, hs, t2, t3⟩ := hT.cs
  have hmo' := Mo_o hmo
  obtain ⟨mm0, -⟩ := Mo_of hR hmo'
  have hm2 := Mo2 hmo
  have hl2 := ly_Ho2 hh
  have cl : xc S (d + 60) 113 [.ref 0] (Mk g I L R) (Rq (some (.int (nI (aMo cs sz (lkL (L (h + 7 + 1)) n) (lkL (L (h + 1 + 1)) nr) 1001 ((0, 0), 0, fun _ => (0, (0, 0)))).1.2))) g (fun I' L' R' => LR R' ∧ (∀ p, ¬ p = 1 → ¬ (134 - mo ≤ p ∧ p < 134 - mo + 4) → I' p = I p) ∧ (∀ p, ¬ p = 1 → L' p = L p) ∧ (R' 0 1 = R 0 1 ∧ R' 0 2 = R 0 2) ∧ I' 1 1 = 0 ∧ PMc cs sz (lkL (L (h + 7 + 1)) n) (lkL (L (h + 1 + 1)) nr) (134 - mo) (aMo cs sz (lkL (L (h + 7 + 1)) n) (lkL (L (h + 1 + 1)) nr) 1001 ((0, 0), 0, fun _ => (0, (0, 0)))) I' ∧ (¬ (aMo cs sz (lkL (L (h + 7 + 1)) n) (lkL (L (h + 1 + 1)) nr) 1001 ((0, 0), 0, fun _ => (0, (0, 0)))).1.2 = 0 → R' 0 3 = .ref mo ∧ R' 0 4 = .ref (134 - mo)) ∧ ((aMo cs sz (lkL (L (h + 7 + 1)) n) (lkL (L (h + 1 + 1)) nr) 1001 ((0, 0), 0, fun _ => (0, (0, 0)))).1.2 = 0 → R' 0 3 = .ref (134 - mo) ∧ R' 0 4 = .ref mo))) := by
    refine xc_RqI (fun Q hQ => ?_)
    rw [iv_X11_months]
    simp (disch := omega) only [kX11_months_0, gX11_months_17, xi_iconst, xi_getf, xi_putf, xw_v3, xw_if, xw_iret, xl_aload_0, xl_aload_2, xl_astore_2, xl_bload_0, xl_bload_2, xl_iload_1, xl_istore_1, dm_gf, dm_isRef, dm_pf, xk_i0, xt_10_3, xt_10_4, xv_10_0, xv_10_1, xv_10_3, xv_10_4, reduceIte, Nat.reduceBEq, Bool.false_eq_true, Bool.true_eq_false, if_true, if_false, Bool.not_true, Bool.not_false, Bool.and_true, Bool.and_false, Bool.true_and, Bool.false_and, xwm_some, xwm_none, xwm_ite, kl_I, kl_R, kl_X, kl_N, kl_L, dm_cmp, decide_eq_true_eq, decide_true, decide_false, xfI, xfB0, xfB1, xfBi, ite_self, xf00, xf10, xf11, Bool.or_true, Bool.true_or, Bool.or_false, Bool.false_or, Int.reduceToNat, true_and, and_true, and_self, false_and, and_false, not_false_eq_true, not_true_eq_false, ite_not, xwt_def, xg_cI, xg_cL, xg_cR, xg_cX, xg_cN, List.map_cons, List.map_nil, List.sum_cons, List.sum_nil, Nat.reduceAdd, Nat.reduceMul, Nat.reduceLeDiff, Option.toList, List.cons_append, List.nil_append, List.append_nil, dm_rcvR, dm_rcvX, mkI, mkL, mkR, mkS, mk_I, mk_L, mk_R, xd10, xd2, xd3, xd4, ite_T, ite_F, xz_0, xz_1, xz_2, xz_3, xz_4, xz_5, xz_6, xz_7, xz_8, xz_10, xz_13, xz_19, xz_25, xz_26, xz_31, xz_37, xz_43, xz_44, xz_56, xz_92, xy_0, xy_1, xy_2, xy_3, xy_4, xy_5, xy_6, xy_7, xy_8, xy_10, xy_13, xy_19, xy_25, xy_26, xy_31, xy_37, xy_43, xy_44, xy_56, xy_92, xi_add, xi_in, xi_cl, xi_le, xi_lt, xi_eq, xi_m1, xi_lt0, xi_ge0, xa_0, xle_0, xg_0, xq_0, dm_upe, dm_upi, dm_upp, ms_0, ms_1, ms_2, ms_73, ms_80, ms_87, ms_88, ms_89, ms_90, ms_91, ms_92, ms_93, ms_99, ms_101, ms_74, ms_75, ms_76, ms_77, ms_78, ms_79, ms_81, ms_82, ms_83, ms_84, ms_85, ms_86, mr_0_0 hR, mr_0_5 hR, mr_0_6 hR, mr_0_7 hR, mr_0_10 hR, mr_0_11 hR, mr_0_13 hR, mr_0_14 hR, mr_0_15 hR, mr_0_16 hR, mr_73_3 hR, mr_73_4 hR, mr_73_5 hR, mr_73_6 hR, mr_73_7 hR, mr_73_8 hR, mr_80_3 hR, mr_80_4 hR, mr_80_5 hR, mr_80_6 hR, mr_80_7 hR, mr_80_8 hR, h1, r4, mm0]
    refine xc_mono (xc_deeper (d' := d + 59) (by omega) (c_readMonths (d := d) hR tp hmo' hh hC.1.1.2.1 hn hC.1.1.1 h6 rfl rfl)) ?_
    rintro _ _ ⟨rfl, I1, L1, R1, rfl, k1, ⟨k2, k3, k4⟩, k5, k6⟩
    have hF : (aMo cs sz (lkL (L (h + 7 + 1)) n) (lkL (L (h + 1 + 1)) nr) 1001 ((0, 0), 0, fun _ => (0, (0, 0)))).1.2 ≤ 20000 := aMo_b hs _ _ (Nat.zero_le _)
    have q1 : R1 0 1 = .ref h := by rw [k4 0 (by decide)]; exact h1
    have q3 : R1 0 3 = .ref mo := by rw [k4 0 (by decide)]; exact r3
    have q4 : R1 0 4 = .ref (134 - mo) := by rw [k4 0 (by decide)]; exact r4
    generalize (aMo cs sz (lkL (L (h + 7 + 1)) n) (lkL (L (h + 1 + 1)) nr) 1001 ((0, 0), 0, fun _ => (0, (0, 0)))) = F at *
    by_cases z : F.1.2 = 0
    · rw [show (some (Value.int (nI F.1.2))) = some (.int 0) by rw [z]; rfl] at hQ
      simp (disch := omega) only [kX11_months_22, gX11_months_17, xi_iconst, xi_getf, xi_putf, xw_v3, xw_if, xw_iret, xl_aload_0, xl_aload_2, xl_astore_2, xl_bload_0, xl_bload_2, xl_iload_1, xl_istore_1, dm_gf, dm_isRef, dm_pf, xk_i0, xt_10_3, xt_10_4, xv_10_0, xv_10_1, xv_10_3, xv_10_4, reduceIte, Nat.reduceBEq, Bool.false_eq_true, Bool.true_eq_false, if_true, if_false, Bool.not_true, Bool.not_false, Bool.and_true, Bool.and_false, Bool.true_and, Bool.false_and, xwm_some, xwm_none, xwm_ite, kl_I, kl_R, kl_X, kl_N, kl_L, dm_cmp, decide_eq_true_eq, decide_true, decide_false, xfI, xfB0, xfB1, xfBi, ite_self, xf00, xf10, xf11, Bool.or_true, Bool.true_or, Bool.or_false, Bool.false_or, Int.reduceToNat, true_and, and_true, and_self, false_and, and_false, not_false_eq_true, not_true_eq_false, ite_not, xwt_def, xg_cI, xg_cL, xg_cR, xg_cX, xg_cN, List.map_cons, List.map_nil, List.sum_cons, List.sum_nil, Nat.reduceAdd, Nat.reduceMul, Nat.reduceLeDiff, Option.toList, List.cons_append, List.nil_append, List.append_nil, dm_rcvR, dm_rcvX, mkI, mkL, mkR, mkS, mk_I, mk_L, mk_R, xd10, xd2, xd3, xd4, ite_T, ite_F, xz_0, xz_1, xz_2, xz_3, xz_4, xz_5, xz_6, xz_7, xz_8, xz_10, xz_13, xz_19, xz_25, xz_26, xz_31, xz_37, xz_43, xz_44, xz_56, xz_92, xy_0, xy_1, xy_2, xy_3, xy_4, xy_5, xy_6, xy_7, xy_8, xy_10, xy_13, xy_19, xy_25, xy_26, xy_31, xy_37, xy_43, xy_44, xy_56, xy_92, xi_add, xi_in, xi_cl, xi_le, xi_lt, xi_eq, xi_m1, xi_lt0, xi_ge0, xa_0, xle_0, xg_0, xq_0, dm_upe, dm_upi, dm_upp, ms_0, q3, q4, z]
      refine hQ _ _ _ ⟨(k1.up fr03.2 _).up fr03.1 _, k2, k3, ⟨?_, ?_⟩, k5, k6, fun y => absurd z y, fun _ => ⟨dm_upe, ?_⟩⟩
      · rw [dm_upi (by decide), dm_upi (by decide), k4 0 (by decide)]
      · rw [dm_upi (by decide), dm_upi (by decide), k4 0 (by decide)]
      · rw [dm_upi (by decide), dm_upe]
    · simp (disch := omega) only [gX11_months_17, xi_iconst, xi_getf, xi_putf, xw_v3, xw_if, xw_iret, xl_aload_0, xl_aload_2, xl_astore_2, xl_bload_0, xl_bload_2, xl_iload_1, xl_istore_1, dm_gf, dm_isRef, dm_pf, xk_i0, xt_10_3, xt_10_4, xv_10_0, xv_10_1, xv_10_3, xv_10_4, reduceIte, Nat.reduceBEq, Bool.false_eq_true, Bool.true_eq_false, if_true, if_false, Bool.not_true, Bool.not_false, Bool.and_true, Bool.and_false, Bool.true_and, Bool.false_and, xwm_some, xwm_none, xwm_ite, kl_I, kl_R, kl_X, kl_N, kl_L, dm_cmp, decide_eq_true_eq, decide_true, decide_false, xfI, xfB0, xfB1, xfBi, ite_self, xf00, xf10, xf11, Bool.or_true, Bool.true_or, Bool.or_false, Bool.false_or, Int.reduceToNat, true_and, and_true, and_self, false_and, and_false, not_false_eq_true, not_true_eq_false, ite_not, xwt_def, xg_cI, xg_cL, xg_cR, xg_cX, xg_cN, List.map_cons, List.map_nil, List.sum_cons, List.sum_nil, Nat.reduceAdd, Nat.reduceMul, Nat.reduceLeDiff, Option.toList, List.cons_append, List.nil_append, List.append_nil, dm_rcvR, dm_rcvX, mkI, mkL, mkR, mkS, mk_I, mk_L, mk_R, xd10, xd2, xd3, xd4, ite_T, ite_F, xz_0, xz_1, xz_2, xz_3, xz_4, xz_5, xz_6, xz_7, xz_8, xz_10, xz_13, xz_19, xz_25, xz_26, xz_31, xz_37, xz_43, xz_44, xz_56, xz_92, xy_0, xy_1, xy_2, xy_3, xy_4, xy_5, xy_6, xy_7, xy_8, xy_10, xy_13, xy_19, xy_25, xy_26, xy_31, xy_37, xy_43, xy_44, xy_56, xy_92, xi_add, xi_in, xi_cl, xi_le, xi_lt, xi_eq, xi_m1, xi_lt0, xi_ge0, xa_0, xle_0, xg_0, xq_0, dm_upe, dm_upi, dm_upp, ms_0, z]
      exact hQ _ _ _ ⟨k1, k2, k3, ⟨by rw [k4 0 (by decide)], by rw [k4 0 (by decide)]⟩, k5, k6, fun _ => ⟨q3, q4⟩, fun y => absurd y z⟩
  obtain ⟨I1, L1, R1, ⟨k1, k2, k3, ⟨k4, k4'⟩, k5, k6, k7, k8⟩, hc⟩ := xc_Rq cl
  have eL : L1 273 = L 273 := k3 273 (by decide)
  have hT' : ∀ w, okW w → lkL (L (h + 7 + 1)) n w = lkM 20 (L 273) kd nm w := fun w hw => ((hlk w hw).2).symm
  have hR' : ∀ w, okW w → lkL (L (h + 1 + 1)) nr w = lkM 0 (L 273) kd nm w := fun w hw => ((hlk w hw).1).symm
  have hi : ∀ p, 264 ≤ p → I1 p = I p := fun p hp => k2 p (by omega) (by omega)
  have ml := m_months (S := S) (d := d + 52) (g := g) (I := I1) (L := L1) (R := R1) k1 (cs := cs) (sz := sz) (nm := nm) (kd := kd) hs (by rw [hi 264 (by omega)]; exact t2) (by rw [hi 265 (by omega)]; exact t3) (by rw [k3 269 (by decide)]; exact hCo.2.2) (by rw [hi 264 (by omega)]; exact hm18) hnm (by rw [hi 275 (by omega)]; exact hkd)
  rw [eL, ← aMo_e hT' hR'] at ml
  obtain ⟨I2, L2, R2, ⟨m1, m2, m3, m4, m5, m6, m7⟩, hm⟩ := xc_Rq ml
  subst m1
  refine ⟨_, _, _, hc, hm, ?_⟩
  have o1 : I2 1 1 = 0 := by rw [m4 1 (by decide) (by decide) (by decide) (by decide)]; exact k5
  have fI : ∀ p, ¬ p = 1 → ¬ (65 ≤ p ∧ p < 73) → ¬ p = 264 → ¬ p = 266 → ¬ p = 267 → ¬ p = 277 → I2 p = I p := fun p h1 h2 h3 h4 h5 h6 => (m4 p h3 h4 h5 h6).trans (k2 p h1 (by omega))
  have fJ : ∀ i, ¬ i = 0 → ¬ i = 2 → ¬ i = 3 → ¬ i = 7 → ¬ i = 8 → I2 264 i = I 264 i := fun i h0 h1 h2 h3 h4 => by rw [m5 i h0 h1 h2 h3 h4, hi 264 (by omega)]
  have fL : ∀ p, ¬ p = 1 → ¬ p = 268 → L2 p = L p := fun p h1 h2 => (m2 p h2).trans (k3 p h1)
  have ml0 : MLo cs sz (lkL (L (h + 7 + 1)) n) (lkL (L (h + 1 + 1)) nr) (aMo cs sz (lkL (L (h + 7 + 1)) n) (lkL (L (h + 1 + 1)) nr) 1001 ((0, 0), 0, fun _ => (0, (0, 0)))) := MLo_o _ _ (fun _ i hi => absurd hi (Nat.not_lt_zero i))
  generalize (aMo cs sz (lkL (L (h + 7 + 1)) n) (lkL (L (h + 1 + 1)) nr) 1001 ((0, 0), 0, fun _ => (0, (0, 0)))) = F at *
  have fM : ∀ p, 65 ≤ p → p < 73 → I2 p = I1 p := fun p h1 h2 => m4 p (by omega) (by omega) (by omega) (by omega)
  by_cases z : F.1.2 = 0
  · obtain ⟨n1, n2⟩ := m7 z
    obtain ⟨n3, n4⟩ := k8 z
    refine ⟨h, 134 - mo, nr, n, ne, D, W, I2, L2, R2, rfl, (r.mon (mo' := 134 - mo) fI fJ fL k1 k4 k4' ⟨⟨hmo', n3, by rw [show 134 - (134 - mo) = mo by omega]; exact n4⟩, ?_⟩ (TAP.no o1 m3)).K (by omega)⟩
    refine MON_of rfl rfl hT' hR' z ml0 ?_ n1 n2
    unfold PMc
    rw [fM (134 - mo) (by omega) (by omega), fM (134 - mo + 1) (by omega) (by omega), fM (134 - mo + 2) (by omega) (by omega), fM (134 - mo + 3) (by omega) (by omega)]
    exact k6
  · obtain ⟨n3, n4⟩ := k7 z
    have e2 : ∀ k, k < 100 → I2 277 k = I 277 k := fun k hk => by rw [m6 z k hk, hi 277 (by omega)]
    refine ⟨h, mo, nr, n, ne, D, W, I2, L2, R2, rfl, (r.mon (mo' := mo) fI fJ fL k1 k4 k4' ⟨⟨hmo, n3, n4⟩, ?_⟩ (TAP.no o1 m3)).K (by omega)⟩
    obtain ⟨nl, a1, a2, a3, a4⟩ := mon
    have fO : ∀ p, mo ≤ p → p < mo + 4 → I2 p = I p := fun p h1 h2 => (fM p (by omega) (by omega)).trans (k2 p (by omega) (by omega))
    refine ⟨nl, a1, by rw [fO mo (by omega) (by omega)]; exact a2, by rw [e2 0 (by omega)]; exact a3, fun l hl => ?_⟩
    have := a4 l hl
    unfold LIN at this ⊢
    rw [fO (mo + 1) (by omega) (by omega), fO (mo + 2) (by omega) (by omega), fO (mo + 3) (by omega) (by omega), e2 (1 + 3 * l) (by omega), e2 (2 + 3 * l) (by omega), e2 (3 + 3 * l) (by omega)]
    exact this
