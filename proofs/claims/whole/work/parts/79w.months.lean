/-! Months: the lines in turn. -/
/-- where one is, how many lines, and of each its deed and where it goes on -/
abbrev Ms : Type := Cu × Nat × (Nat → Nat × Cu)
def updM (f : Nat → Nat × Cu) (i : Nat) (v : Nat × Cu) : Nat → Nat × Cu := fun j => if j = i then v else f j
def aMs (cs : Nat → Nat) (sz : Nat) (lkT lkR : Lk) (m : Ms) : Ms := match aWH cs sz 19 6 m.1 with
  | none => (aFl cs sz 1 m.1, m.2)
  | some w => if m.2.1 = 30 then (aFl cs sz 5 m.1, m.2) else (aLn cs sz lkT lkR w (aAd m.1), m.2.1 + 1, updM m.2.2 m.2.1 (w, aAd m.1))
def aMo (cs : Nat → Nat) (sz : Nat) (lkT lkR : Lk) : Nat → Ms → Ms
  | 0, m => m
  | f + 1, m => if aO cs sz m.1 = true then m else aMo cs sz lkT lkR f (aMs cs sz lkT lkR m)
theorem aFl_1 {cs : Nat → Nat} {sz w : Nat} {c : Cu} : (aFl cs sz w c).1 = c.1 := by
  unfold aFl
  split <;> rfl
theorem aAd_1 {c : Cu} : c.1 ≤ (aAd c).1 := by
  unfold aAd
  split
  · exact Nat.le_succ _
  · exact Nat.le_refl _
theorem aNS_1 {cs : Nat → Nat} {sz ch : Nat} {c : Cu} : c.1 ≤ (aNS cs sz ch c).1 := by
  unfold aNS
  split
  · exact aAd_1
  · rw [aFl_1]; exact Nat.le_refl _
theorem aNW_1 {cs : Nat → Nat} {sz ch : Nat} {c : Cu} : c.1 ≤ (aNW cs sz ch c).1 := by
  unfold aNW
  split
  · exact aAd_1
  · rw [aFl_1]; exact Nat.le_refl _
theorem aNN_1 {cs : Nat → Nat} {sz lo hi : Nat} {c : Cu} : c.1 ≤ (aNN cs sz lo hi c).1 := by
  unfold aNN
  split
  · split
    · exact aAd_1
    · rw [aFl_1]; exact Nat.le_refl _
  · rw [aFl_1]; exact Nat.le_refl _
theorem aSee_1 {cs : Nat → Nat} {sz : Nat} {o : Option Nat} {c : Cu} : (aSee cs sz o c).1 = c.1 := by
  unfold aSee
  split
  · cases o with
    | none => exact aFl_1
    | some r => rfl
  · exact aFl_1
theorem aLn_1 {cs : Nat → Nat} {sz : Nat} {lkT lkR : Lk} {w : Nat} {c : Cu} : c.1 ≤ (aLn cs sz lkT lkR w c).1 := by
  have h1 : ∀ c : Cu, c.1 ≤ (aL1 cs sz lkT w c).1 := fun c => by
    unfold aL1
    split
    · exact Nat.le_refl _
    · exact Nat.le_trans (Nat.le_of_eq aSee_1.symm) aAd_1
  have h2 : ∀ c : Cu, c.1 ≤ (aL2 cs sz lkR w c).1 := fun c => by
    unfold aL2
    split
    · exact aNN_1
    · split
      · exact aNN_1
      · split
        · exact Nat.le_trans (Nat.le_of_eq aSee_1.symm) aAd_1
        · exact Nat.le_refl _
  exact Nat.le_trans (h1 c) (Nat.le_trans (h2 _) aNS_1)
/-- over, once as many lines as tokens are passed -/
theorem aO_ge {cs : Nat → Nat} {sz : Nat} {c : Cu} (hs : sz ≤ 1000) (h : 1000 ≤ c.1) : aO cs sz c = true := by
  refine decide_eq_true (Or.inr ?_)
  unfold tK
  rw [if_pos ?_]
  refine Classical.byContradiction fun y => ?_
  have := sP_ge cs sz c.1 (by omega)
  omega
theorem aMs_1 {cs : Nat → Nat} {sz : Nat} {lkT lkR : Lk} {m : Ms} (h : m.1.2 = 0) : ¬ (aMs cs sz lkT lkR m).1.2 = 0 ∨ m.1.1 + 1 ≤ (aMs cs sz lkT lkR m).1.1 := by
  unfold aMs
  cases hw : aWH cs sz 19 6 m.1 with
  | none => exact Or.inl (aFl_ne (by decide))
  | some w =>
    dsimp only
    split
    · exact Or.inl (aFl_ne (by decide))
    · refine Or.inr (Nat.le_trans ?_ aLn_1)
      unfold aAd
      rw [if_pos h]
      exact Nat.le_refl _
