/-! Pictures: a month's row B (the reference's own 43 numbers), a house's row H; how class and reference hold them. -/
def b6 (a b c d e f : Bool) : Int32 := (if a then 1 else 0) ||| (if b then 2 else 0) ||| (if c then 4 else 0) ||| (if d then 8 else 0) ||| (if e then 16 else 0) ||| (if f then 32 else 0)
def bB (f : Nat → Bool) : Int32 := b6 (f 0) (f 1) (f 2) (f 3) (f 4) (f 5)
def inB (B : Nat → Int32) (t : Nat) : Bool := !decide (B (1 + t) = -1)
def goB (B : Nat → Int32) (t : Nat) : Bool := decide (B (37 + t) = 1)
def loB (H : Nat → Int32) (t e : Nat) : Bool := decide (H (56 + 6 * t + e) = 1)
def WFH (H : Nat → Int32) (nr n ne : Nat) : Prop :=
  (H 0 = nI nr ∧ H 1 = nI n ∧ H 2 = nI ne ∧ nr ≤ 6 ∧ n ≤ 6 ∧ ne ≤ 6) ∧
  ((∃ c, c ≤ 60 ∧ H 3 = nI c) ∧ (∃ c, 1 ≤ c ∧ c ≤ 120 ∧ H 4 = nI c) ∧ (∃ c, 1 ≤ c ∧ c ≤ 30 ∧ H 5 = nI c)) ∧
  (∀ r, r < nr → (∃ a, a ≤ 60 ∧ H (8 + 3 * r) = nI a) ∧ (∃ a, a ≤ 20 ∧ H (8 + 3 * r + 1) = nI a) ∧ (∃ a, a ≤ 999 ∧ H (8 + 3 * r + 2) = nI a)) ∧
  (∀ t, t < n → (∃ a, a ≤ 3 ∧ H (26 + 5 * t) = nI a) ∧ (∃ a, 40 ≤ a ∧ a ≤ 99 ∧ H (26 + 5 * t + 1) = nI a) ∧ (∃ a, a ≤ 40 ∧ H (26 + 5 * t + 2) = nI a) ∧ (∃ a, a ≤ 9999 ∧ H (26 + 5 * t + 3) = nI a) ∧ (H (26 + 5 * t + 4) = -1 ∨ ∃ r, r < nr ∧ H (26 + 5 * t + 4) = nI r)) ∧
  (∀ t e, t < n → e < n → ¬ t = e → H (26 + 5 * t + 4) = H (26 + 5 * e + 4) → H (26 + 5 * t + 4) = -1) ∧
  (∀ e, e < ne → (∃ a, a ≤ 99 ∧ H (92 + 3 * e) = nI a) ∧ (∃ a, 1 ≤ a ∧ a ≤ 20 ∧ H (92 + 3 * e + 1) = nI a) ∧ (∃ a, a ≤ 60 ∧ H (92 + 3 * e + 2) = nI a))
def HP (I : Nat → Nat → Int32) (h : Nat) (H : Nat → Int32) (nr n ne : Nat) : Prop :=
  (I (h + 1) 2 = nI nr ∧ I (h + 7) 2 = nI n ∧ I (h + 17) 2 = nI ne ∧ I h 5 = H 3 ∧ I h 6 = H 4 ∧ I h 7 = H 5) ∧
  (∀ r, r < nr → I (h + 1 + 3) r = H (8 + 3 * r) ∧ I (h + 1 + 4) r = H (8 + 3 * r + 1) ∧ I (h + 1 + 5) r = H (8 + 3 * r + 2)) ∧
  (∀ t, t < n → I (h + 7 + 3) t = H (26 + 5 * t) ∧ I (h + 7 + 4) t = H (26 + 5 * t + 1) ∧ I (h + 7 + 5) t = H (26 + 5 * t + 2) ∧ I (h + 7 + 6) t = H (26 + 5 * t + 3) ∧ I (h + 7 + 7) t = H (26 + 5 * t + 4) ∧ I (h + 7 + 8) t = bB (loB H t) ∧ I (h + 7 + 9) t = rsV H t) ∧
  (∀ e, e < ne → I (h + 17 + 3) e = H (92 + 3 * e) ∧ I (h + 17 + 4) e = H (92 + 3 * e + 1) ∧ I (h + 17 + 5) e = H (92 + 3 * e + 2))
theorem HP.fr {I I' : Nat → Nat → Int32} {h : Nat} {H : Nat → Int32} {nr n ne : Nat} (hp : HP I h H nr n ne) (f : ∀ p, h ≤ p → p < h + 31 → I' p = I p) : HP I' h H nr n ne := by
  unfold HP
  rw [f (h + 1) (by omega) (by omega), f (h + 7) (by omega) (by omega), f (h + 17) (by omega) (by omega), f h (by omega) (by omega), f (h + 1 + 3) (by omega) (by omega), f (h + 1 + 4) (by omega) (by omega), f (h + 1 + 5) (by omega) (by omega), f (h + 7 + 3) (by omega) (by omega), f (h + 7 + 4) (by omega) (by omega), f (h + 7 + 5) (by omega) (by omega), f (h + 7 + 6) (by omega) (by omega), f (h + 7 + 7) (by omega) (by omega), f (h + 7 + 8) (by omega) (by omega), f (h + 7 + 9) (by omega) (by omega), f (h + 17 + 3) (by omega) (by omega), f (h + 17 + 4) (by omega) (by omega), f (h + 17 + 5) (by omega) (by omega)]
  exact hp
def WFB (nr n K : Nat) (B : Nat → Int32) : Prop :=
  (∀ t, t < 6 → B (1 + t) = -1 ∨ (t < n ∧ ∃ r, r < nr ∧ B (1 + t) = nI r)) ∧
  (∀ t e, t < 6 → e < 6 → ¬ t = e → B (1 + t) = B (1 + e) → B (1 + t) = -1) ∧
  (∀ t, t < 6 → n ≤ t → B (7 + t) = 0 ∧ B (13 + t) = 0 ∧ B (19 + t) = 0 ∧ B (25 + t) = 0 ∧ B (31 + t) = 0 ∧ B (37 + t) = 0) ∧
  (∀ t, t < 6 → (∃ c, c ≤ 120 ∧ B (19 + t) = nI c) ∧ (∃ c, c ≤ K ∧ B (25 + t) = nI c) ∧ (∃ c, c ≤ 9999 ∧ B (31 + t) = nI c) ∧ (B (37 + t) = 0 ∨ B (37 + t) = 1) ∧ (B (37 + t) = 1 → B (1 + t) = -1) ∧ (K ≤ 10000000 → ∃ c, c ≤ 100 * K ∧ B (13 + t) = nI c))
/-- how a State of the class, at q, holds it; br: what coffee adds -/
def CP (I : Nat → Nat → Int32) (q : Nat) (br : Int32) (B : Nat → Int32) : Prop :=
  (I q 0 = B 0 ∧ I q 1 = bB (goB B) ∧ I q 2 = br) ∧
  (∀ t, t < 6 → I (q + 1) t = B (1 + t)) ∧ (∀ t, t < 6 → I (q + 2) t = B (13 + t)) ∧ (∀ t, t < 6 → I (q + 3) t = B (19 + t)) ∧ (∀ t, t < 6 → I (q + 4) t = B (25 + t)) ∧ (∀ t, t < 6 → I (q + 5) t = B (7 + t)) ∧ (∀ t, t < 6 → I (q + 6) t = B (31 + t))
theorem CP.fr {I I' : Nat → Nat → Int32} {q : Nat} {br : Int32} {B : Nat → Int32} (c : CP I q br B) (f : ∀ p, q ≤ p → p < q + 7 → I' p = I p) : CP I' q br B := by
  unfold CP
  rw [f q (by omega) (by omega), f (q + 1) (by omega) (by omega), f (q + 2) (by omega) (by omega), f (q + 3) (by omega) (by omega), f (q + 4) (by omega) (by omega), f (q + 5) (by omega) (by omega), f (q + 6) (by omega) (by omega)]
  exact c
/-- only q's own places are others -/
def FrS (q : Nat) (I I' : Nat → Nat → Int32) : Prop := ∀ p, p < q ∨ q + 7 ≤ p → I' p = I p
theorem FrS.refl (q : Nat) (I : Nat → Nat → Int32) : FrS q I I := fun _ _ => rfl
theorem FrS.trans {q : Nat} {I I' I'' : Nat → Nat → Int32} (h : FrS q I I') (g : FrS q I' I'') : FrS q I I'' := fun p hp => (g p hp).trans (h p hp)
theorem dm_upp {α : Type} {f : Nat → Nat → α} {p q i : Nat} {v : α} (h : ¬ q = p) : dm_up f p i v q = f q := by
  funext j; simp only [dm_up, h, false_and, if_false]
theorem dm_upe {α : Type} {f : Nat → Nat → α} {p i : Nat} {v : α} : dm_up f p i v p i = v := by simp [dm_up]
theorem dm_upi {α : Type} {f : Nat → Nat → α} {p i j : Nat} {v : α} (h : ¬ j = i) : dm_up f p i v p j = f p j := by simp [dm_up, h]
theorem FrS.up {q : Nat} {I I' : Nat → Nat → Int32} (h : FrS q I I') {k i : Nat} {v : Int32} (hk : k < 7) : FrS q I (dm_up I' (q + k) i v) := fun p hp => by
  rw [dm_upp (by omega)]; exact h p hp
theorem FrS.up0 {q : Nat} {I I' : Nat → Nat → Int32} (h : FrS q I I') {i : Nat} {v : Int32} : FrS q I (dm_up I' q i v) := h.up (k := 0) (by decide)
theorem upd_eq {f : Nat → Int32} {i : Nat} {v : Int32} : upd f i v i = v := by simp [upd]
theorem upd_ne {f : Nat → Int32} {i j : Nat} {v : Int32} (h : ¬ j = i) : upd f i v j = f j := by simp [upd, h]
theorem goB_upd {B : Nat → Int32} {i : Nat} {v : Int32} (h : i < 37 ∨ 43 ≤ i) : bB (goB (upd B i v)) = bB (goB B) := by
  simp only [bB, goB]
  rw [upd_ne (show ¬ 37 + 0 = i by omega), upd_ne (show ¬ 37 + 1 = i by omega), upd_ne (show ¬ 37 + 2 = i by omega), upd_ne (show ¬ 37 + 3 = i by omega), upd_ne (show ¬ 37 + 4 = i by omega), upd_ne (show ¬ 37 + 5 = i by omega)]
theorem CP.up1 {I : Nat → Nat → Int32} {q j : Nat} {br v : Int32} {B : Nat → Int32} (c : CP I q br B) (hj : j < 6) : CP (dm_up I (q + 1) j v) q br (upd B (1 + j) v) := by
  refine ⟨by rw [dm_upp (by omega), upd_ne (by omega), goB_upd (by omega)]; exact c.1, fun t ht => by
    by_cases e : t = j
    · subst e; rw [dm_upe, upd_eq]
    · rw [dm_upi e, upd_ne (by omega)]; exact c.2.1 t ht, fun t ht => by rw [dm_upp (by omega), upd_ne (by omega)]; exact c.2.2.1 t ht, fun t ht => by rw [dm_upp (by omega), upd_ne (by omega)]; exact c.2.2.2.1 t ht, fun t ht => by rw [dm_upp (by omega), upd_ne (by omega)]; exact c.2.2.2.2.1 t ht, fun t ht => by rw [dm_upp (by omega), upd_ne (by omega)]; exact c.2.2.2.2.2.1 t ht, fun t ht => by rw [dm_upp (by omega), upd_ne (by omega)]; exact c.2.2.2.2.2.2 t ht⟩
theorem CP.up2 {I : Nat → Nat → Int32} {q j : Nat} {br v : Int32} {B : Nat → Int32} (c : CP I q br B) (hj : j < 6) : CP (dm_up I (q + 2) j v) q br (upd B (13 + j) v) := by
  refine ⟨by rw [dm_upp (by omega), upd_ne (by omega), goB_upd (by omega)]; exact c.1, fun t ht => by rw [dm_upp (by omega), upd_ne (by omega)]; exact c.2.1 t ht, fun t ht => by
    by_cases e : t = j
    · subst e; rw [dm_upe, upd_eq]
    · rw [dm_upi e, upd_ne (by omega)]; exact c.2.2.1 t ht, fun t ht => by rw [dm_upp (by omega), upd_ne (by omega)]; exact c.2.2.2.1 t ht, fun t ht => by rw [dm_upp (by omega), upd_ne (by omega)]; exact c.2.2.2.2.1 t ht, fun t ht => by rw [dm_upp (by omega), upd_ne (by omega)]; exact c.2.2.2.2.2.1 t ht, fun t ht => by rw [dm_upp (by omega), upd_ne (by omega)]; exact c.2.2.2.2.2.2 t ht⟩
theorem CP.up3 {I : Nat → Nat → Int32} {q j : Nat} {br v : Int32} {B : Nat → Int32} (c : CP I q br B) (hj : j < 6) : CP (dm_up I (q + 3) j v) q br (upd B (19 + j) v) := by
  refine ⟨by rw [dm_upp (by omega), upd_ne (by omega), goB_upd (by omega)]; exact c.1, fun t ht => by rw [dm_upp (by omega), upd_ne (by omega)]; exact c.2.1 t ht, fun t ht => by rw [dm_upp (by omega), upd_ne (by omega)]; exact c.2.2.1 t ht, fun t ht => by
    by_cases e : t = j
    · subst e; rw [dm_upe, upd_eq]
    · rw [dm_upi e, upd_ne (by omega)]; exact c.2.2.2.1 t ht, fun t ht => by rw [dm_upp (by omega), upd_ne (by omega)]; exact c.2.2.2.2.1 t ht, fun t ht => by rw [dm_upp (by omega), upd_ne (by omega)]; exact c.2.2.2.2.2.1 t ht, fun t ht => by rw [dm_upp (by omega), upd_ne (by omega)]; exact c.2.2.2.2.2.2 t ht⟩
theorem CP.up4 {I : Nat → Nat → Int32} {q j : Nat} {br v : Int32} {B : Nat → Int32} (c : CP I q br B) (hj : j < 6) : CP (dm_up I (q + 4) j v) q br (upd B (25 + j) v) := by
  refine ⟨by rw [dm_upp (by omega), upd_ne (by omega), goB_upd (by omega)]; exact c.1, fun t ht => by rw [dm_upp (by omega), upd_ne (by omega)]; exact c.2.1 t ht, fun t ht => by rw [dm_upp (by omega), upd_ne (by omega)]; exact c.2.2.1 t ht, fun t ht => by rw [dm_upp (by omega), upd_ne (by omega)]; exact c.2.2.2.1 t ht, fun t ht => by
    by_cases e : t = j
    · subst e; rw [dm_upe, upd_eq]
    · rw [dm_upi e, upd_ne (by omega)]; exact c.2.2.2.2.1 t ht, fun t ht => by rw [dm_upp (by omega), upd_ne (by omega)]; exact c.2.2.2.2.2.1 t ht, fun t ht => by rw [dm_upp (by omega), upd_ne (by omega)]; exact c.2.2.2.2.2.2 t ht⟩
theorem CP.up5 {I : Nat → Nat → Int32} {q j : Nat} {br v : Int32} {B : Nat → Int32} (c : CP I q br B) (hj : j < 6) : CP (dm_up I (q + 5) j v) q br (upd B (7 + j) v) := by
  refine ⟨by rw [dm_upp (by omega), upd_ne (by omega), goB_upd (by omega)]; exact c.1, fun t ht => by rw [dm_upp (by omega), upd_ne (by omega)]; exact c.2.1 t ht, fun t ht => by rw [dm_upp (by omega), upd_ne (by omega)]; exact c.2.2.1 t ht, fun t ht => by rw [dm_upp (by omega), upd_ne (by omega)]; exact c.2.2.2.1 t ht, fun t ht => by rw [dm_upp (by omega), upd_ne (by omega)]; exact c.2.2.2.2.1 t ht, fun t ht => by
    by_cases e : t = j
    · subst e; rw [dm_upe, upd_eq]
    · rw [dm_upi e, upd_ne (by omega)]; exact c.2.2.2.2.2.1 t ht, fun t ht => by rw [dm_upp (by omega), upd_ne (by omega)]; exact c.2.2.2.2.2.2 t ht⟩
theorem CP.up6 {I : Nat → Nat → Int32} {q j : Nat} {br v : Int32} {B : Nat → Int32} (c : CP I q br B) (hj : j < 6) : CP (dm_up I (q + 6) j v) q br (upd B (31 + j) v) := by
  refine ⟨by rw [dm_upp (by omega), upd_ne (by omega), goB_upd (by omega)]; exact c.1, fun t ht => by rw [dm_upp (by omega), upd_ne (by omega)]; exact c.2.1 t ht, fun t ht => by rw [dm_upp (by omega), upd_ne (by omega)]; exact c.2.2.1 t ht, fun t ht => by rw [dm_upp (by omega), upd_ne (by omega)]; exact c.2.2.2.1 t ht, fun t ht => by rw [dm_upp (by omega), upd_ne (by omega)]; exact c.2.2.2.2.1 t ht, fun t ht => by rw [dm_upp (by omega), upd_ne (by omega)]; exact c.2.2.2.2.2.1 t ht, fun t ht => by
    by_cases e : t = j
    · subst e; rw [dm_upe, upd_eq]
    · rw [dm_upi e, upd_ne (by omega)]; exact c.2.2.2.2.2.2 t ht⟩
theorem CP.up0 {I : Nat → Nat → Int32} {q : Nat} {br v : Int32} {B : Nat → Int32} (c : CP I q br B) : CP (dm_up I q 0 v) q br (upd B 0 v) := by
  refine ⟨⟨by rw [dm_upe, upd_eq], by rw [dm_upi (by decide), goB_upd (by omega)]; exact c.1.2.1, by rw [dm_upi (by decide)]; exact c.1.2.2⟩, ?_⟩
  refine ⟨fun t ht => ?_, fun t ht => ?_, fun t ht => ?_, fun t ht => ?_, fun t ht => ?_, fun t ht => ?_⟩ <;> rw [dm_upp (by omega), upd_ne (by omega)]
  · exact c.2.1 t ht
  · exact c.2.2.1 t ht
  · exact c.2.2.2.1 t ht
  · exact c.2.2.2.2.1 t ht
  · exact c.2.2.2.2.2.1 t ht
  · exact c.2.2.2.2.2.2 t ht
/-- how the reference holds it, at b of its row of states -/
def RB (I : Nat → Nat → Int32) (b : Nat) (B : Nat → Int32) : Prop := ∀ i, i < 43 → I 280 (b + i) = B i
/-- only the block at b, and what is written on the way (facts, pile), are others -/
def FrM (b : Nat) (I I' : Nat → Nat → Int32) : Prop := (∀ p, ¬ p = 280 → ¬ p = 278 → ¬ p = 279 → I' p = I p) ∧ ∀ i, i < b ∨ b + 43 ≤ i → I' 280 i = I 280 i
theorem FrM.refl (b : Nat) (I : Nat → Nat → Int32) : FrM b I I := ⟨fun _ _ _ _ => rfl, fun _ _ => rfl⟩
theorem FrM.trans {b : Nat} {I I' I'' : Nat → Nat → Int32} (h : FrM b I I') (g : FrM b I' I'') : FrM b I I'' := ⟨fun p h1 h2 h3 => (g.1 p h1 h2 h3).trans (h.1 p h1 h2 h3), fun i hi => (g.2 i hi).trans (h.2 i hi)⟩
theorem RB.up {I : Nat → Nat → Int32} {b : Nat} {B : Nat → Int32} (h : RB I b B) {i : Nat} {v : Int32} : RB (dm_up I 280 (b + i) v) b (upd B i v) := fun j hj => by
  by_cases e : j = i
  · subst e; rw [dm_upe, upd_eq]
  · rw [dm_upi (by omega), upd_ne e]; exact h j hj
theorem FrM.up {b : Nat} {I I' : Nat → Nat → Int32} (h : FrM b I I') {i : Nat} {v : Int32} (hi : i < 43) : FrM b I (dm_up I' 280 (b + i) v) := by
  refine ⟨fun p h1 h2 h3 => by rw [dm_upp h1]; exact h.1 p h1 h2 h3, fun j hj => by rw [dm_upi (by omega)]; exact h.2 j hj⟩
theorem RB.row {I : Nat → Nat → Int32} {b : Nat} {B : Nat → Int32} {X : Nat → Int32} (h : ∀ i, i < 43 → X (b + i) = B i) : RB (dm_row I 280 X) b B := fun i hi => by rw [show dm_row I 280 X 280 = X by simp [dm_row]]; exact h i hi
/-- rows that agree -/
def EqB (B B' : Nat → Int32) : Prop := ∀ i, i < 43 → B i = B' i
theorem RB.eq {I : Nat → Nat → Int32} {b : Nat} {B B' : Nat → Int32} (h : RB I b B) (e : EqB B B') : RB I b B' := fun i hi => (h i hi).trans (e i hi)
theorem goB_eq {B B' : Nat → Int32} (e : EqB B B') : bB (goB B) = bB (goB B') := by
  simp only [bB, goB]
  rw [e (37 + 0) (by omega), e (37 + 1) (by omega), e (37 + 2) (by omega), e (37 + 3) (by omega), e (37 + 4) (by omega), e (37 + 5) (by omega)]
theorem CP.eq {I : Nat → Nat → Int32} {q : Nat} {br : Int32} {B B' : Nat → Int32} (c : CP I q br B) (e : EqB B B') : CP I q br B' :=
  ⟨⟨c.1.1.trans (e 0 (by omega)), c.1.2.1.trans (goB_eq e), c.1.2.2⟩, fun t ht => (c.2.1 t ht).trans (e _ (by omega)), fun t ht => (c.2.2.1 t ht).trans (e _ (by omega)), fun t ht => (c.2.2.2.1 t ht).trans (e _ (by omega)), fun t ht => (c.2.2.2.2.1 t ht).trans (e _ (by omega)), fun t ht => (c.2.2.2.2.2.1 t ht).trans (e _ (by omega)), fun t ht => (c.2.2.2.2.2.2 t ht).trans (e _ (by omega))⟩
theorem ly_HS : ∀ h ∈ ly_Ho, ∀ q ∈ ly_St, h + 31 ≤ q ∧ q + 7 ≤ 264 := by decide
theorem HP.S {I I' : Nat → Nat → Int32} {h q : Nat} {H : Nat → Int32} {nr n ne : Nat} (hp : HP I h H nr n ne) (hh : h ∈ ly_Ho) (hq : q ∈ ly_St) (f : FrS q I I') : HP I' h H nr n ne :=
  hp.fr (fun p h1 h2 => f p (Or.inl (by have := (ly_HS h hh q hq).1; omega)))
