/-! The class's pulse by the pictures. -/
theorem b6_and : ∀ a0 a1 a2 a3 a4 a5 b0 b1 b2 b3 b4 b5 : Bool, (b6 a0 a1 a2 a3 a4 a5 &&& b6 b0 b1 b2 b3 b4 b5 = 0) = (((a0 && b0) || (a1 && b1) || (a2 && b2) || (a3 && b3) || (a4 && b4) || (a5 && b5)) = false) := by
  have h : ∀ a0 a1 a2 a3 a4 a5 b0 b1 b2 b3 b4 b5 : Bool, decide (b6 a0 a1 a2 a3 a4 a5 &&& b6 b0 b1 b2 b3 b4 b5 = 0) = !((a0 && b0) || (a1 && b1) || (a2 && b2) || (a3 && b3) || (a4 && b4) || (a5 && b5)) := by decide +kernel
  intro a0 a1 a2 a3 a4 a5 b0 b1 b2 b3 b4 b5
  have h1 := h a0 a1 a2 a3 a4 a5 b0 b1 b2 b3 b4 b5
  refine propext ⟨fun z => ?_, fun z => ?_⟩
  · rw [decide_eq_true z] at h1
    revert h1
    generalize ((a0 && b0) || (a1 && b1) || (a2 && b2) || (a3 && b3) || (a4 && b4) || (a5 && b5)) = y
    cases y <;> simp
  · rw [z] at h1; exact of_decide_eq_true h1
theorem b6_0 : ∀ a0 a1 a2 a3 a4 a5 : Bool, (b6 a0 a1 a2 a3 a4 a5 = 0) = ((a0 || a1 || a2 || a3 || a4 || a5) = false) := by
  have h : ∀ a0 a1 a2 a3 a4 a5 : Bool, decide (b6 a0 a1 a2 a3 a4 a5 = 0) = !(a0 || a1 || a2 || a3 || a4 || a5) := by decide +kernel
  intro a0 a1 a2 a3 a4 a5
  have h1 := h a0 a1 a2 a3 a4 a5
  refine propext ⟨fun z => ?_, fun z => ?_⟩
  · rw [decide_eq_true z] at h1; simpa using h1.symm
  · rw [z] at h1; exact of_decide_eq_true h1
def anyB (f : Nat → Bool) : Nat → Bool
  | 0 => false
  | m + 1 => anyB f m || f m
theorem lvF_any (f g : Nat → Int32) (hg : ∀ e, g e = -1 ∨ ¬ g e < 0) : ∀ (m k : Nat) (i : Int32), (i = 0 ∨ i = 1) → (lvF f g m k i = 0 ∨ lvF f g m k i = 1) ∧ (lvF f g m k i = 0 ↔ i = 0 ∧ ∀ e, k ≤ e → e < k + m → ¬ (f e = 1 ∧ ¬ g e < 0))
  | 0, k, i, hi => ⟨hi, ⟨fun h => ⟨h, fun e h1 h2 => by omega⟩, fun h => h.1⟩⟩
  | m + 1, k, i, hi => by
    have ih := lvF_any f g hg m (k + 1) (if i = 0 then (if f k = 1 then (if g k < 0 then 0 else 1) else 0) else 1) (by by_cases h1 : i = 0 <;> by_cases h2 : f k = 1 <;> by_cases h3 : g k < 0 <;> simp [h1, h2, h3])
    refine ⟨ih.1, ih.2.trans ⟨fun h => ?_, fun h => ?_⟩⟩
    · have h0 : i = 0 ∧ ¬ (f k = 1 ∧ ¬ g k < 0) := by
        have h1 := h.1
        by_cases a : i = 0 <;> by_cases b : f k = 1 <;> by_cases c : g k < 0 <;> simp [a, b, c] at h1 ⊢
      refine ⟨h0.1, fun e h1 h2 => ?_⟩
      by_cases he : e = k
      · subst he; exact h0.2
      · exact h.2 e (by omega) (by omega)
    · refine ⟨?_, fun e h1 h2 => h.2 e (by omega) (by omega)⟩
      have h1 := h.2 k (by omega) (by omega)
      rw [if_pos h.1]
      by_cases b : f k = 1 <;> by_cases c : g k < 0 <;> simp [b, c] at h1 ⊢
theorem ib_bB (f : Nat → Int32) : ibF f 6 0 0 = b6 (!decide (f 0 = -1)) (!decide (f 1 = -1)) (!decide (f 2 = -1)) (!decide (f 3 = -1)) (!decide (f 4 = -1)) (!decide (f 5 = -1)) := by
  have e : ∀ a b c d e g : Bool, (((((((0 : Int32) ||| if a = true then (0 : Int32) else 1 <<< (nI 0 &&& 31)) ||| if b = true then (0 : Int32) else 1 <<< (nI 1 &&& 31)) ||| if c = true then (0 : Int32) else 1 <<< (nI 2 &&& 31)) ||| if d = true then (0 : Int32) else 1 <<< (nI 3 &&& 31)) ||| if e = true then (0 : Int32) else 1 <<< (nI 4 &&& 31)) ||| if g = true then (0 : Int32) else 1 <<< (nI 5 &&& 31)) = b6 (!a) (!b) (!c) (!d) (!e) (!g) := by decide +kernel
  rw [← e]
  simp only [ibF, decide_eq_true_eq]
theorem m1_lt {x : Int32} (h : x = -1) : x < 0 := by subst h; decide
theorem WFB.lt {nr n K : Nat} {B : Nat → Int32} (w : WFB nr n K B) (h6 : nr ≤ 6) {t : Nat} (ht : t < 6) : (B (1 + t) < 0) = (B (1 + t) = -1) := by
  rcases w.1 t ht with h | ⟨_, r, hr, h⟩
  · rw [h]; simp
  · rw [h, xi_m1 (by omega), xi_lt0 (by omega)]
theorem jy_lv {H B : Nat → Int32} {nr n K j : Nat} (w : WFB nr n K B) (h6 : nr ≤ 6) (hn : n ≤ 6) : jyV (bB (loB H j)) (bB (inB B)) = if lvF (fun e => H (56 + 6 * j + e)) (fun e => B (0 + 1 + e)) n 0 0 = 0 then 0 else 8 := by
  have hg : ∀ e, e < 6 → (B (1 + e) < 0) = (B (1 + e) = -1) := fun e he => w.lt h6 he
  have h1 : (lvF (fun e => H (56 + 6 * j + e)) (fun e => B (0 + 1 + e)) n 0 0 = 0) = (bB (loB H j) &&& bB (inB B) = 0) := by
    have hc : lvF (fun e => H (56 + 6 * j + e)) (fun e => B (0 + 1 + e)) n 0 0 = lvF (fun e => H (56 + 6 * j + e)) (fun e => if e < 6 then B (1 + e) else -1) n 0 0 := lvF_congr n 0 0 (fun e _ h2 => ⟨rfl, by show B (0 + 1 + e) = if e < 6 then B (1 + e) else -1; rw [if_pos (by omega), Nat.zero_add]⟩)
    rw [hc]
    have ha := (lvF_any (fun e => H (56 + 6 * j + e)) (fun e => if e < 6 then B (1 + e) else -1) (fun e => by
      by_cases he : e < 6
      · simp only [if_pos he]
        rcases w.1 e he with h | ⟨_, r, hr, h⟩
        · exact Or.inl h
        · right; rw [h, xi_lt0 (by omega)]; exact fun z => z
      · simp [he]) n 0 0 (Or.inl rfl)).2
    refine propext (ha.trans ⟨fun h => ?_, fun h => ⟨rfl, fun e h0 he hh => ?_⟩⟩)
    · have k : ∀ e, e < 6 → (loB H j e && inB B e) = false := fun e he => by
        by_cases a : H (56 + 6 * j + e) = 1
        · by_cases b : B (1 + e) = -1
          · simp [inB, b]
          · exfalso
            have hen : e < n := ((w.1 e he).resolve_left b).1
            refine h.2 e (Nat.zero_le e) (by omega) ⟨a, ?_⟩
            simp only [if_pos he, hg e he]; exact b
        · simp [loB, a]
      unfold bB
      rw [b6_and, k 0 (by decide), k 1 (by decide), k 2 (by decide), k 3 (by decide), k 4 (by decide), k 5 (by decide)]; rfl
    · unfold bB at h
      rw [b6_and] at h
      simp only [Bool.or_eq_false_iff] at h
      have he6 : e < 6 := by omega
      simp only [if_pos he6, hg e he6] at hh
      have k : (loB H j e && inB B e) = true := by simp [loB, inB, hh.1, hh.2]
      obtain ⟨⟨⟨⟨⟨k0, k1⟩, k2⟩, k3⟩, k4⟩, k5⟩ := h
      match e, he6 with
      | 0, _ => rw [k0] at k; exact Bool.noConfusion k
      | 1, _ => rw [k1] at k; exact Bool.noConfusion k
      | 2, _ => rw [k2] at k; exact Bool.noConfusion k
      | 3, _ => rw [k3] at k; exact Bool.noConfusion k
      | 4, _ => rw [k4] at k; exact Bool.noConfusion k
      | 5, _ => rw [k5] at k; exact Bool.noConfusion k
  simp only [h1]
  unfold jyV
  by_cases h2 : bB (loB H j) = 0
  · rw [if_pos h2, h2, if_pos (by rw [Int32.zero_and])]
  · rw [if_neg h2]
theorem le_lt240 (x : Int32) : (if x < 240 then x else 240) = if x ≤ 240 then x else 240 := by
  by_cases h : x < 240
  · rw [if_pos h, if_pos (Int32.le_of_lt h)]
  · rw [if_neg h]
    by_cases h2 : x ≤ 240
    · rw [if_pos h2]; exact Int32.le_antisymm (Int32.not_lt.mp h) h2
    · rw [if_neg h2]
theorem pl_eq (rest joy noise stir cof lov : Int32) (hj : joy = if lov = 0 then 0 else 8) : (if rest + joy + noise + stir + cof < 240 then rest + joy + noise + stir + cof else 240) = if rest + stir + noise + cof + (if lov = 0 then 0 else 8) ≤ 240 then rest + stir + noise + cof + (if lov = 0 then 0 else 8) else 240 := by
  rw [le_lt240, hj]
  generalize (if lov = 0 then (0 : Int32) else 8) = y
  have e : rest + y + noise + stir + cof = rest + stir + noise + cof + y := by ac_rfl
  rw [e]
section
variable {S : dm_Sc} {d : Nat} {σ : dm_St} {I : Nat → Nat → Int32} {Q : Option Value → dm_St → Prop} {h q nr n ne K : Nat} {H B : Nat → Int32} {br : Int32}
theorem CP.ib (c : CP I q br B) : ibF (I (q + 1)) 6 0 0 = bB (inB B) := by
  rw [ib_bB, c.2.1 0 (by decide), c.2.1 1 (by decide), c.2.1 2 (by decide), c.2.1 3 (by decide), c.2.1 4 (by decide), c.2.1 5 (by decide)]; rfl
/-- what of a pulse stays alike -/
def sdV (H B : Nat → Int32) (n j : Nat) : Int32 := rsV H j + (if lvF (fun e => H (56 + 6 * j + e)) (fun e => B (0 + 1 + e)) n 0 0 = 0 then 0 else 8) + H (8 + 3 * (B (1 + j)).toNatClampNeg + 1)
theorem c_steady (L : Lay σ) (hh : h ∈ ly_Ho) (hq : q ∈ ly_St) (w : WFH H nr n ne) (hp : HP I h H nr n ne) (wb : WFB nr n K B) (c : CP I q br B) {j : Nat} (hj : j < 6) (hi : ¬ B (1 + j) = -1) : xc S (d + 3) 68 [.ref q, .ref h, .int (nI j)] (dm_setI σ I) Q ↔ Q (some (.int (sdV H B n j))) (dm_setI σ I) := by
  obtain ⟨⟨-, -, -, h6, hn, -⟩, -⟩ := w
  obtain ⟨hjn, r, hr, e⟩ := (wb.1 j hj).resolve_left hi
  have t := hp.2.2.1 j hjn
  have h0 := c_steadyBeats (S := S) (d := d) (Q := Q) (L.I I) hh hq hn hp.1.2.1 hjn ((c.2.1 j hj).trans e) h6 hp.1.1 hr
  refine h0.trans ?_
  have e1 : dm_I (dm_setI σ I) (h + 7 + 9) j + jyV (dm_I (dm_setI σ I) (h + 7 + 8) j) (ibF (dm_I (dm_setI σ I) (q + 1)) 6 0 0) + dm_I (dm_setI σ I) (h + 1 + 4) r = sdV H B n j := by
    show I (h + 7 + 9) j + jyV (I (h + 7 + 8) j) (ibF (I (q + 1)) 6 0 0) + I (h + 1 + 4) r = _
    rw [c.ib, t.2.2.2.2.2.1, t.2.2.2.2.2.2, (hp.2.1 r hr).2.1, jy_lv wb h6 hn, sdV, e, xi_cl (by omega)]
  rw [e1]
theorem c_pulse (L : Lay σ) (hh : h ∈ ly_Ho) (hq : q ∈ ly_St) (w : WFH H nr n ne) (hp : HP I h H nr n ne) (wb : WFB nr n K B) (c : CP I q br B) {j : Nat} (hj : j < 6) (hi : ¬ B (1 + j) = -1) : xc S (d + 4) 67 [.ref q, .ref h, .int (nI j)] (dm_setI σ I) Q ↔ Q (some (.int (pRv H B br n 0 j))) (dm_setI σ I) := by
  obtain ⟨⟨-, -, -, h6, hn, -⟩, -⟩ := w
  obtain ⟨hjn, r, hr, e⟩ := (wb.1 j hj).resolve_left hi
  have t := hp.2.2.1 j hjn
  have h0 := c_pulseOf (S := S) (d := d) (Q := Q) (L.I I) hh hq hn hp.1.2.1 hjn ((c.2.1 j hj).trans e) h6 hp.1.1 hr
  refine h0.trans ?_
  have e1 := pl_eq (I (h + 7 + 9) j) (jyV (I (h + 7 + 8) j) (ibF (I (q + 1)) 6 0 0)) (I (h + 1 + 4) r) (I (q + 2) j) (if I (q + 3) j ≤ 0 then 0 else I q 2) (lvF (fun e => H (56 + 6 * j + e)) (fun e => B (0 + 1 + e)) n 0 0) (by rw [c.ib, t.2.2.2.2.2.1, jy_lv wb h6 hn])
  have e2 : (if I (h + 7 + 9) j + jyV (I (h + 7 + 8) j) (ibF (I (q + 1)) 6 0 0) + I (h + 1 + 4) r + I (q + 2) j + (if I (q + 3) j ≤ 0 then 0 else I q 2) < 240 then I (h + 7 + 9) j + jyV (I (h + 7 + 8) j) (ibF (I (q + 1)) 6 0 0) + I (h + 1 + 4) r + I (q + 2) j + (if I (q + 3) j ≤ 0 then 0 else I q 2) else 240) = pRv H B br n 0 j := by
    rw [e1, t.2.2.2.2.2.2, (hp.2.1 r hr).2.1, c.2.2.1 j hj, c.2.2.2.1 j hj, c.1.2.2]
    unfold pRv plV
    rw [show B (0 + 1 + j) = nI r by rw [Nat.zero_add]; exact e, xi_cl (by omega), Nat.zero_add, Nat.zero_add]
  show Q (some (.int (if I (h + 7 + 9) j + jyV (I (h + 7 + 8) j) (ibF (I (q + 1)) 6 0 0) + I (h + 1 + 4) r + I (q + 2) j + (if I (q + 3) j ≤ 0 then 0 else I q 2) < 240 then I (h + 7 + 9) j + jyV (I (h + 7 + 8) j) (ibF (I (q + 1)) 6 0 0) + I (h + 1 + 4) r + I (q + 2) j + (if I (q + 3) j ≤ 0 then 0 else I q 2) else 240))) (dm_setI σ I) ↔ _
  rw [e2]
end
