/-! The mathematics of errands. -/
abbrev Wk : Type := Nat × Nat × Nat
/-- an errand: opens, takes, adds -/
def erH (H : Nat → Int32) (e : Nat) : Nat × Nat × Nat := ((H (92 + 3 * e)).toNatClampNeg, (H (92 + 3 * e + 1)).toNatClampNeg, (H (92 + 3 * e + 2)).toNatClampNeg)
theorem WFH.er {H : Nat → Int32} {nr n ne e : Nat} (w : WFH H nr n ne) (he : e < ne) : (H (92 + 3 * e) = nI (erH H e).1 ∧ H (92 + 3 * e + 1) = nI (erH H e).2.1 ∧ H (92 + 3 * e + 2) = nI (erH H e).2.2) ∧ (erH H e).1 ≤ 99 ∧ 1 ≤ (erH H e).2.1 ∧ (erH H e).2.1 ≤ 20 ∧ (erH H e).2.2 ≤ 60 := by
  obtain ⟨⟨a, ha, ea⟩, ⟨b, hb1, hb2, eb⟩, ⟨c, hc, ec⟩⟩ := w.2.2.2.2.2 e he
  unfold erH
  rw [ea, eb, ec, xi_cl (by omega), xi_cl (by omega), xi_cl (by omega)]
  exact ⟨⟨rfl, rfl, rfl⟩, ha, hb1, hb2, hc⟩
def wst (q : Ten) (ad bg now j : Nat) (p : Nat × Nat) : Nat × Nat := (teM q p.1, p.2 + (teR q + p.1 + if bg ≤ now + j then ad else 0))
def wit (q : Ten) (ad bg now j : Nat) (p : Nat × Nat) : Nat × Nat := itB (wst q ad bg now) j p
theorem wit_s (q : Ten) (ad bg now j : Nat) (p : Nat × Nat) : wit q ad bg now (j + 1) p = wst q ad bg now j (wit q ad bg now j p) := rfl
def wlk (q : Ten) (x : Nat × Nat × Nat) (w : Wk) : Wk := (max w.1 x.1 + x.2.1, max (wit q x.2.2 (max w.1 x.1) w.1 (max w.1 x.1 + x.2.1 - w.1) (w.2.1, w.2.2)).1 x.2.2, (wit q x.2.2 (max w.1 x.1) w.1 (max w.1 x.1 + x.2.1 - w.1) (w.2.1, w.2.2)).2)
theorem teM_le (q : Ten) (s : Nat) : teM q s ≤ s := by unfold teM; split <;> omega
theorem wit_le {q : Ten} {ad bg now : Nat} {p : Nat × Nat} (hr : teR q ≤ 119) (h1 : p.1 ≤ 60) (ha : ad ≤ 60) : ∀ j, (wit q ad bg now j p).1 ≤ 60 ∧ p.2 ≤ (wit q ad bg now j p).2 ∧ (wit q ad bg now j p).2 ≤ p.2 + 239 * j
  | 0 => ⟨h1, Nat.le_refl _, Nat.le_refl _⟩
  | j + 1 => by
    obtain ⟨a, b, c⟩ := wit_le (q := q) (bg := bg) (now := now) hr h1 ha j
    rw [wit_s]
    generalize wit q ad bg now j p = z at a b c ⊢
    have := teM_le q z.1
    refine ⟨?_, ?_, ?_⟩
    · show teM q z.1 ≤ 60; omega
    · show p.2 ≤ z.2 + (teR q + z.1 + if bg ≤ now + j then ad else 0); omega
    · show z.2 + (teR q + z.1 + if bg ≤ now + j then ad else 0) ≤ p.2 + 239 * (j + 1)
      split <;> omega
def okE (x : Nat × Nat × Nat) : Prop := x.1 ≤ 99 ∧ 1 ≤ x.2.1 ∧ x.2.1 ≤ 20 ∧ x.2.2 ≤ 60
def okWk (w : Wk) (k : Nat) : Prop := w.1 ≤ 99 + 20 * k ∧ w.2.1 ≤ 60 ∧ w.2.2 ≤ 239 * w.1
theorem okWk.go {q : Ten} {x : Nat × Nat × Nat} {w : Wk} {k : Nat} (hr : teR q ≤ 119) (hx : okE x) (h : okWk w k) : okWk (wlk q x w) (k + 1) ∧ w.2.2 ≤ (wlk q x w).2.2 := by
  obtain ⟨a1, a2, a3⟩ := h
  obtain ⟨x1, x2, x3, x4⟩ := hx
  obtain ⟨b1, b2, b3⟩ := wit_le (q := q) (ad := x.2.2) (bg := max w.1 x.1) (now := w.1) (p := (w.2.1, w.2.2)) hr a2 x4 (max w.1 x.1 + x.2.1 - w.1)
  unfold wlk
  refine ⟨⟨?_, ?_, ?_⟩, b2⟩
  · show max w.1 x.1 + x.2.1 ≤ 99 + 20 * (k + 1); omega
  · show max _ x.2.2 ≤ 60; exact Nat.max_le.mpr ⟨b1, x4⟩
  · show (wit _ _ _ _ _ _).2 ≤ 239 * (max w.1 x.1 + x.2.1)
    dsimp only at b3
    omega
def updN (f : Nat → Nat) (i v : Nat) : Nat → Nat := fun j => if j = i then v else f j
def updB (f : Nat → Bool) (i : Nat) : Nat → Bool := fun j => if j = i then true else f j
/-- the fewest beats so far, and their order -/
abbrev Bst : Type := Nat × (Nat → Nat)
def trv (q : Ten) (E : Nat → Nat × Nat × Nat) (many : Nat) : Nat → Nat → (Nat → Nat) → (Nat → Bool) → Wk → Bst → Bst
  | 0, _, od, _, w, b => if w.2.2 < b.1 then (w.2.2, od) else b
  | r + 1, k, od, us, w, b => itB (fun e b => if us e then b else trv q E many r (k + 1) (updN od k e) (updB us e) (wlk q (E e) w) b) many b
theorem trv_le (q : Ten) (E : Nat → Nat × Nat × Nat) (many : Nat) : ∀ (r k : Nat) (od : Nat → Nat) (us : Nat → Bool) (w : Wk) (b : Bst), (trv q E many r k od us w b).1 ≤ b.1
  | 0, _, od, _, w, b => by
    show (if w.2.2 < b.1 then (w.2.2, od) else b).1 ≤ b.1
    split
    · rename_i h; exact Nat.le_of_lt h
    · exact Nat.le_refl _
  | r + 1, k, od, us, w, b => by
    refine itB_inv (n := many) (P := fun x : Bst => x.1 ≤ b.1) (fun e x he hx => ?_) many b (Nat.le_refl many) (Nat.le_refl _)
    show (if us e then x else _).1 ≤ b.1
    split
    · exact hx
    · exact Nat.le_trans (trv_le q E many r _ _ _ _ _) hx
/-- nothing better lies below -/
theorem trv_skip {q : Ten} {E : Nat → Nat × Nat × Nat} {many : Nat} (hr : teR q ≤ 119) (hE : ∀ e, e < many → okE (E e)) : ∀ (r k : Nat) (od : Nat → Nat) (us : Nat → Bool) (w : Wk) (b : Bst), okWk w k → b.1 ≤ w.2.2 → trv q E many r k od us w b = b
  | 0, _, od, _, w, b, _, h => by
    show (if w.2.2 < b.1 then (w.2.2, od) else b) = b
    rw [if_neg (by omega)]
  | r + 1, k, od, us, w, b, hw, h => by
    refine itB_inv (n := many) (P := fun x : Bst => x = b) (fun e x he hx => ?_) many b (Nat.le_refl many) rfl
    subst hx
    show (if us e then x else _) = x
    split
    · rfl
    · obtain ⟨g1, g2⟩ := hw.go hr (hE e he)
      exact trv_skip hr hE r (k + 1) _ _ _ _ g1 (Nat.le_trans h g2)
/-- the way so far, out of the order -/
def wlO (q : Ten) (E : Nat → Nat × Nat × Nat) (od : Nat → Nat) (k : Nat) : Wk := itB (fun j w => wlk q (E (od j)) w) k (0, 0, 0)
theorem wlO_s (q : Ten) (E : Nat → Nat × Nat × Nat) (od : Nat → Nat) (k : Nat) : wlO q E od (k + 1) = wlk q (E (od k)) (wlO q E od k) := rfl
theorem wlO_congr {q : Ten} {E : Nat → Nat × Nat × Nat} {od od' : Nat → Nat} : ∀ k, (∀ j, j < k → od j = od' j) → wlO q E od k = wlO q E od' k
  | 0, _ => rfl
  | k + 1, h => by rw [wlO_s, wlO_s, h k (by omega), wlO_congr k (fun j hj => h j (by omega))]
theorem wlO_ok {q : Ten} {E : Nat → Nat × Nat × Nat} {od : Nat → Nat} {many : Nat} (hr : teR q ≤ 119) (hE : ∀ e, e < many → okE (E e)) : ∀ k, (∀ j, j < k → od j < many) → okWk (wlO q E od k) k
  | 0, _ => ⟨Nat.zero_le _, Nat.zero_le _, Nat.zero_le _⟩
  | k + 1, h => by
    rw [wlO_s]
    exact ((wlO_ok hr hE k (fun j hj => h j (by omega))).go hr (hE _ (h k (by omega)))).1
theorem b6_shr : ∀ a0 a1 a2 a3 a4 a5 : Bool, ((b6 a0 a1 a2 a3 a4 a5 >>> (nI 0 &&& 31) &&& 1 = 0) ↔ a0 = false) ∧ ((b6 a0 a1 a2 a3 a4 a5 >>> (nI 1 &&& 31) &&& 1 = 0) ↔ a1 = false) ∧ ((b6 a0 a1 a2 a3 a4 a5 >>> (nI 2 &&& 31) &&& 1 = 0) ↔ a2 = false) ∧ ((b6 a0 a1 a2 a3 a4 a5 >>> (nI 3 &&& 31) &&& 1 = 0) ↔ a3 = false) ∧ ((b6 a0 a1 a2 a3 a4 a5 >>> (nI 4 &&& 31) &&& 1 = 0) ↔ a4 = false) ∧ ((b6 a0 a1 a2 a3 a4 a5 >>> (nI 5 &&& 31) &&& 1 = 0) ↔ a5 = false) := by decide +kernel
theorem bB_shr (f : Nat → Bool) {j : Nat} (hj : j < 6) : (bB f >>> (nI j &&& 31) &&& 1 = 0) ↔ f j = false := by
  have h := b6_shr (f 0) (f 1) (f 2) (f 3) (f 4) (f 5)
  rcases (show j = 0 ∨ j = 1 ∨ j = 2 ∨ j = 3 ∨ j = 4 ∨ j = 5 by omega) with rfl | rfl | rfl | rfl | rfl | rfl
  · exact h.1
  · exact h.2.1
  · exact h.2.2.1
  · exact h.2.2.2.1
  · exact h.2.2.2.2.1
  · exact h.2.2.2.2.2
theorem bB_or (f : Nat → Bool) {j : Nat} (hj : j < 6) : bB f ||| 1 <<< (nI j &&& 31) = bB (updB f j) := by
  have h := b6_or (f 0) (f 1) (f 2) (f 3) (f 4) (f 5)
  rcases (show j = 0 ∨ j = 1 ∨ j = 2 ∨ j = 3 ∨ j = 4 ∨ j = 5 by omega) with rfl | rfl | rfl | rfl | rfl | rfl
  · exact h.1
  · exact h.2.1
  · exact h.2.2.1
  · exact h.2.2.2.1
  · exact h.2.2.2.2.1
  · exact h.2.2.2.2.2
