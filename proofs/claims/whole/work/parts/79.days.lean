/-! The mathematics of days: what one did, by samples. -/
theorem nI_div {a b : Nat} (ha : a < 2147483648) (hb : b < 2147483648) : nI a / nI b = nI (a / b) := by
  have hd : a / b < 2147483648 := Nat.lt_of_le_of_lt (Nat.div_le_self a b) ha
  apply Int32.toInt_inj.mp
  rw [Int32.toInt_div, nI_toInt ha, nI_toInt hb, ← Int.ofNat_tdiv, nI_toInt hd, Int.bmod_def]
  generalize a / b = x at hd ⊢
  split <;> omega
theorem nI_mul (a b : Nat) : nI a * nI b = nI (a * b) := by
  unfold nI; exact (Int32.ofNat_mul a b).symm
theorem nI_mod {a b : Nat} (ha : a < 2147483648) (hb : b < 2147483648) : nI a - nI a / nI b * nI b = nI (a % b) := by
  rw [nI_div ha hb, nI_mul, xi_sub (Nat.div_mul_le_self a b)]
  congr 1
  have := Nat.div_add_mod a b
  rw [Nat.mul_comm] at this
  omega
/-- of a tenant: kind, rest, calm -/
abbrev Ten : Type := Nat × Nat × Nat
def teR (q : Ten) : Nat := q.2.1 + if q.1 = 3 then 20 else 0
def teC (q : Ten) : Nat := if q.1 = 2 then 10 else 20
def teF (q : Ten) (hb : Nat) : Nat := (40 - q.2.2) / (1 + hb)
def teM (q : Ten) (s : Nat) : Nat := if q.1 = 1 then s / 4 else s / 2
def okT (q : Ten) : Prop := q.1 ≤ 3 ∧ 40 ≤ q.2.1 ∧ q.2.1 ≤ 99 ∧ q.2.2 ≤ 40
def dyS (q : Ten) (a : Nat) (p : Nat × Nat) : Nat × Nat := if a = 1 then (p.1 + teC q, p.2) else if a = 2 then (p.1 + teF q p.2, p.2 + 1) else p
def zP (q : Ten) : Nat → Nat → Nat × Nat
  | 0, _ => (0, 0)
  | m + 1, p => (teM q (dyS q (p % 3) (zP q m (p / 3))).1, (dyS q (p % 3) (zP q m (p / 3))).2)
def bP (q : Ten) (m p : Nat) : Nat := min 240 (teR q + (dyS q (p % 3) (zP q m (p / 3))).1)
theorem teF_le (q : Ten) (hb : Nat) : teF q hb ≤ 40 := Nat.le_trans (Nat.div_le_self _ _) (Nat.sub_le _ _)
theorem zP_le (q : Ten) : ∀ m p, (zP q m p).1 ≤ 80 ∧ (zP q m p).2 ≤ m
  | 0, _ => ⟨Nat.zero_le 80, Nat.le_refl 0⟩
  | m + 1, p => by
    obtain ⟨h1, h2⟩ := zP_le q m (p / 3)
    have hf := teF_le q (zP q m (p / 3)).2
    unfold zP dyS teM
    refine ⟨?_, ?_⟩
    · have hc : teC q ≤ 20 := by unfold teC; split <;> omega
      dsimp only
      repeat' split
      all_goals omega
    · dsimp only
      repeat' split
      all_goals omega
theorem dyS_le (q : Ten) (a m p : Nat) : (dyS q a (zP q m p)).1 ≤ 120 ∧ (dyS q a (zP q m p)).2 ≤ m + 1 := by
  obtain ⟨h1, h2⟩ := zP_le q m p
  have hf := teF_le q (zP q m p).2
  have hc : teC q ≤ 20 := by unfold teC; split <;> omega
  unfold dyS
  refine ⟨?_, ?_⟩
  · repeat' split
    all_goals first | omega | (dsimp only; omega)
  · repeat' split
    all_goals first | omega | (dsimp only; omega)
theorem bP_le (q : Ten) (m p : Nat) : bP q m p ≤ 240 := Nat.min_le_left _ _
/-- samples: how many, minutes, beats -/
abbrev Sam : Type := Nat × (Nat → Nat) × (Nat → Nat)
abbrev fitD (q : Ten) (s : Sam) (day : Nat) : Prop := ∀ i, i < s.1 → bP q (s.2.1 i) (day / 3 ^ (5 - s.2.1 i)) = s.2.2 i
abbrev Acc : Type := Nat × Nat × (Nat → Nat → Nat)
def dstp (q : Ten) (day : Nat) (a : Acc) : Acc := (a.1 + 1, (if a.1 = 0 then day else a.2.1), fun m b => if bP q m (day / 3 ^ (5 - m)) = b then a.2.2 m b + 1 else a.2.2 m b)
def dfld (q : Ten) (s : Sam) : Nat → Nat → Acc → Acc
  | _, 0, a => a
  | lo, c + 1, a => dfld q s (lo + 1) c (if fitD q s lo then dstp q lo a else a)
theorem dfld_add (q : Ten) (s : Sam) : ∀ (c lo e : Nat) (a : Acc), dfld q s lo (c + e) a = dfld q s (lo + c) e (dfld q s lo c a)
  | 0, lo, e, a => by rw [Nat.zero_add]; rfl
  | c + 1, lo, e, a => by
    rw [show c + 1 + e = (c + e) + 1 by omega]
    show dfld q s (lo + 1) (c + e) _ = _
    rw [dfld_add q s c (lo + 1) e, show lo + 1 + c = lo + (c + 1) by omega]
    rfl
theorem dfld_no (q : Ten) (s : Sam) : ∀ (c lo : Nat) (a : Acc), (∀ j, j < c → ¬ fitD q s (lo + j)) → dfld q s lo c a = a
  | 0, _, _, _ => rfl
  | c + 1, lo, a, h => by
    show dfld q s (lo + 1) c _ = a
    rw [if_neg (show ¬ fitD q s lo from h 0 (by omega))]
    exact dfld_no q s c (lo + 1) a (fun j hj => by rw [show lo + 1 + j = lo + (j + 1) by omega]; exact h (j + 1) (by omega))
/-- bounds of what is kept -/
def okAc (a : Acc) (n : Nat) : Prop := a.1 ≤ n ∧ (∀ m b, a.2.2 m b ≤ a.1) ∧ a.2.1 < 729
theorem okAc.stp {q : Ten} {day n : Nat} {a : Acc} (h : okAc a n) (hd : day < 729) : okAc (dstp q day a) (n + 1) := by
  refine ⟨Nat.succ_le_succ h.1, fun m b => ?_, ?_⟩
  · show (if _ then _ else _) ≤ a.1 + 1
    have := h.2.1 m b
    split
    · exact Nat.succ_le_succ this
    · exact Nat.le_succ_of_le this
  · show (if _ then _ else _) < 729
    split
    · exact hd
    · exact h.2.2
theorem okAc.fld {q : Ten} {s : Sam} : ∀ (c lo : Nat) (a : Acc), okAc a lo → lo + c ≤ 729 → okAc (dfld q s lo c a) (lo + c)
  | 0, _, _, h, _ => h
  | c + 1, lo, a, h, hl => by
    show okAc (dfld q s (lo + 1) c _) _
    rw [show lo + (c + 1) = (lo + 1) + c by omega]
    refine okAc.fld c (lo + 1) _ ?_ (by omega)
    split
    · exact h.stp (by omega)
    · exact ⟨by have := h.1; omega, h.2⟩
/-- the way down to p (m acts) is allowed -/
def okP (q : Ten) (s : Sam) (m p : Nat) : Prop := ∀ i, i < s.1 → s.2.1 i < m → bP q (s.2.1 i) (p / 3 ^ (m - 1 - s.2.1 i)) = s.2.2 i
def alw (q : Ten) (s : Sam) (m p : Nat) : Prop := ∀ i, i < s.1 → s.2.1 i = m → s.2.2 i = bP q m p
theorem p3_step (p a k : Nat) (ha : a < 3) : (3 * p + a) / 3 ^ (k + 1) = p / 3 ^ k := by
  have e : 3 ^ (k + 1) = 3 * 3 ^ k := by rw [Nat.pow_succ, Nat.mul_comm]
  rw [e, ← Nat.div_div_eq_div_mul, show (3 * p + a) / 3 = p by omega]
theorem okP.go {q : Ten} {s : Sam} {m p a : Nat} (ha : a < 3) (h : okP q s m p) (h2 : alw q s m (3 * p + a)) : okP q s (m + 1) (3 * p + a) := fun i hi hm => by
  by_cases e : s.2.1 i = m
  · rw [e, show m + 1 - 1 - m = 0 by omega, Nat.pow_zero, Nat.div_one]; exact (h2 i hi e).symm
  · rw [show m + 1 - 1 - s.2.1 i = (m - 1 - s.2.1 i) + 1 by omega, p3_step _ _ _ ha]
    exact h i hi (by omega)
/-- a way that is not allowed has no fitting day -/
theorem alw.no {q : Ten} {s : Sam} {m p : Nat} (hm : m < 6) (h : ¬ alw q s m p) {j : Nat} (hj : j < 3 ^ (5 - m)) : ¬ fitD q s (p * 3 ^ (5 - m) + j) := fun hf => h fun i hi e => by
  have := hf i hi
  rw [e] at this
  have hd : (p * 3 ^ (5 - m) + j) / 3 ^ (5 - m) = p := by
    rw [Nat.mul_comm, Nat.mul_add_div (Nat.pow_pos (by decide)), Nat.div_eq_of_lt hj, Nat.add_zero]
  rw [hd] at this
  exact this.symm
theorem okP.fit {q : Ten} {s : Sam} {p : Nat} (hs : ∀ i, i < s.1 → s.2.1 i ≤ 5) (h : okP q s 6 p) : fitD q s p := fun i hi => by
  have := h i hi (by have := hs i hi; omega)
  rwa [show 6 - 1 - s.2.1 i = 5 - s.2.1 i by omega] at this
/-- three ways -/
theorem dfld_3 (q : Ten) (s : Sam) {m p : Nat} (hm : m < 6) (a : Acc) : dfld q s (p * 3 ^ (6 - m)) (3 ^ (6 - m)) a = dfld q s ((3 * p + 2) * 3 ^ (5 - m)) (3 ^ (5 - m)) (dfld q s ((3 * p + 1) * 3 ^ (5 - m)) (3 ^ (5 - m)) (dfld q s ((3 * p + 0) * 3 ^ (5 - m)) (3 ^ (5 - m)) a)) := by
  have e : 6 - m = (5 - m) + 1 := by omega
  generalize 5 - m = k at e ⊢
  rw [e, Nat.pow_succ, show p * (3 ^ k * 3) = (3 * p + 0) * 3 ^ k by rw [Nat.add_zero, Nat.mul_comm (3 ^ k) 3, ← Nat.mul_assoc, Nat.mul_comm p 3], show 3 ^ k * 3 = 3 ^ k + (3 ^ k + 3 ^ k) by omega, dfld_add, dfld_add]
  rw [show (3 * p + 0) * 3 ^ k + 3 ^ k = (3 * p + 1) * 3 ^ k by rw [Nat.add_zero, Nat.add_mul, Nat.one_mul], show (3 * p + 1) * 3 ^ k + 3 ^ k = (3 * p + 2) * 3 ^ k by rw [Nat.add_mul, Nat.add_mul]; omega]
theorem dfld_1 (q : Ten) (s : Sam) {p : Nat} (a : Acc) (h : fitD q s p) : dfld q s p 1 a = dstp q p a := by
  show dfld q s (p + 1) 0 _ = _
  rw [if_pos h]; rfl
