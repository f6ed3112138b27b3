/-! The mathematics of months and formulas. -/
def itB {α : Type} (f : Nat → α → α) : Nat → α → α
  | 0, x => x
  | k + 1, x => f k (itB f k x)
theorem itB_0 {α : Type} (f : Nat → α → α) (x : α) : itB f 0 x = x := rfl
theorem itB_s {α : Type} (f : Nat → α → α) (k : Nat) (x : α) : itB f (k + 1) x = f k (itB f k x) := rfl
/-- steps that change nothing any more -/
theorem itB_end {α : Type} (f : Nat → α → α) (x : α) {n : Nat} : ∀ m, (∀ k, n ≤ k → k < n + m → f k (itB f n x) = itB f n x) → itB f (n + m) x = itB f n x
  | 0, _ => rfl
  | m + 1, h => by
    rw [← Nat.add_assoc, itB_s, itB_end f x m (fun k h1 h2 => h k h1 (by omega))]
    exact h (n + m) (by omega) (by omega)
theorem itB_inv {α : Type} {f : Nat → α → α} {P : α → Prop} {n : Nat} (h : ∀ k x, k < n → P x → P (f k x)) : ∀ k x, k ≤ n → P x → P (itB f k x)
  | 0, _, _, hx => hx
  | k + 1, x, hk, hx => h k _ (by omega) (itB_inv h k x (by omega) hx)
/-! Formulas: a code of pairs (what, number), run over a pile. -/
def bothV (c a b : Int32) : Int32 := if c = 4 then a + b else if c = 5 then a - b else if c = 6 then a * b else if c = 7 then (if a < b then 1 else 0) else if c = 8 then (if a = b then 1 else 0) else if c = 9 then (if a = 0 then 0 else if b = 0 then 0 else 1) else (if a = 0 then if b = 0 then 0 else 1 else 1)
def fS (f : Nat → Int32) (o : Int32 × Int32) (s : (Nat → Int32) × Nat) : (Nat → Int32) × Nat :=
  if o.1 = 1 then (upd s.1 s.2 o.2, s.2 + 1) else if o.1 = 2 then (upd s.1 s.2 (f o.2.toNatClampNeg), s.2 + 1) else if o.1 = 3 then (upd s.1 (s.2 - 1) (if s.1 (s.2 - 1) = 0 then 1 else 0), s.2)
  else (upd s.1 (s.2 - 1 - 1) (bothV o.1 (s.1 (s.2 - 1 - 1)) (s.1 (s.2 - 1))), s.2 - 1)
def fR (f : Nat → Int32) (c : Nat → Int32 × Int32) (j : Nat) (s : (Nat → Int32) × Nat) : (Nat → Int32) × Nat := itB (fun j s => fS f (c j) s) j s
def hgt (c : Nat → Int32 × Int32) : Nat → Nat
  | 0 => 0
  | j + 1 => if (c j).1 = 1 ∨ (c j).1 = 2 then hgt c j + 1 else if (c j).1 = 3 then hgt c j else hgt c j - 1
/-- one step of a code is as it must be: m: how high at most; fa: the facts that it may name -/
def okC (fa : Nat → Prop) (m : Nat) (c : Nat → Int32 × Int32) (j : Nat) : Prop :=
  ((c j).1 = 1 ∧ (∃ a, a ≤ 9999 ∧ (c j).2 = nI a) ∧ hgt c j + 1 ≤ m) ∨ ((c j).1 = 2 ∧ (∃ a, fa a ∧ (c j).2 = nI a) ∧ hgt c j + 1 ≤ m) ∨ ((c j).1 = 3 ∧ 1 ≤ hgt c j) ∨ ((∃ a, 4 ≤ a ∧ a ≤ 10 ∧ (c j).1 = nI a) ∧ 2 ≤ hgt c j)
def WFC (fa : Nat → Prop) (c : Nat → Int32 × Int32) (l : Nat) : Prop := (∀ j, j < l → okC fa 21 c j) ∧ hgt c l = 1 ∧ (∀ j, j ≤ l → hgt c j ≤ 21)
theorem nI_ne {a b : Nat} (ha : a < 2147483648) (hb : b < 2147483648) (h : ¬ a = b) : ¬ nI a = nI b := by rw [xi_eq ha hb]; exact h
/-- what a step is not -/
theorem okC_4 {c : Nat → Int32 × Int32} {j : Nat} (h : ∃ a, 4 ≤ a ∧ a ≤ 10 ∧ (c j).1 = nI a) : ¬ (c j).1 = 1 ∧ ¬ (c j).1 = 2 ∧ ¬ (c j).1 = 3 := by
  obtain ⟨a, h4, h10, e⟩ := h
  rw [e]
  exact ⟨nI_ne (b := 1) (by omega) (by decide) (by omega), nI_ne (b := 2) (by omega) (by decide) (by omega), nI_ne (b := 3) (by omega) (by decide) (by omega)⟩
theorem fR_ht {fa : Nat → Prop} {f : Nat → Int32} {c : Nat → Int32 × Int32} {l : Nat} (w : WFC fa c l) (p : Nat → Int32) : ∀ j, j ≤ l → (fR f c j (p, 0)).2 = hgt c j
  | 0, _ => rfl
  | j + 1, hj => by
    have ih := fR_ht (f := f) w p j (by omega)
    have e : fR f c (j + 1) (p, 0) = fS f (c j) (fR f c j (p, 0)) := rfl
    rw [e, hgt]
    rcases w.1 j (by omega) with h | h | h | h
    · rw [fS, if_pos h.1, if_pos (Or.inl h.1)]; exact congrArg (· + 1) ih
    · have h1 : ¬ (c j).1 = 1 := by rw [h.1]; decide
      rw [fS, if_neg h1, if_pos h.1, if_pos (Or.inr h.1)]; exact congrArg (· + 1) ih
    · have h1 : ¬ (c j).1 = 1 := by rw [h.1]; decide
      have h2 : ¬ (c j).1 = 2 := by rw [h.1]; decide
      rw [fS, if_neg h1, if_neg h2, if_pos h.1, if_neg (show ¬ ((c j).1 = 1 ∨ (c j).1 = 2) from fun z => z.elim h1 h2), if_pos h.1]; exact ih
    · obtain ⟨h1, h2, h3⟩ := okC_4 h.1
      rw [fS, if_neg h1, if_neg h2, if_neg h3, if_neg (show ¬ ((c j).1 = 1 ∨ (c j).1 = 2) from fun z => z.elim h1 h2), if_neg h3]; exact congrArg (· - 1) ih
/-- what lay on the pile before is no matter; the facts matter only where named -/
theorem fR_eq {fa : Nat → Prop} {f f' : Nat → Int32} (hf : ∀ a, fa a → a < 2147483648 ∧ f a = f' a) {c : Nat → Int32 × Int32} {l : Nat} (w : WFC fa c l) (p p' : Nat → Int32) : ∀ j, j ≤ l → ∀ i, i < hgt c j → (fR f c j (p, 0)).1 i = (fR f' c j (p', 0)).1 i
  | 0, _ => fun i hi => by simp [hgt] at hi
  | j + 1, hj => fun i hi => by
    have ih := fR_eq hf w p p' j (by omega)
    have g1 := fR_ht (f := f) w p j (by omega)
    have g2 := fR_ht (f := f') w p' j (by omega)
    have e : fR f c (j + 1) (p, 0) = fS f (c j) (fR f c j (p, 0)) := rfl
    have e' : fR f' c (j + 1) (p', 0) = fS f' (c j) (fR f' c j (p', 0)) := rfl
    rw [e, e']
    rw [hgt] at hi
    generalize fR f c j (p, 0) = s at ih g1 ⊢
    generalize fR f' c j (p', 0) = s' at ih g2 ⊢
    rcases w.1 j (by omega) with h | h | h | h
    · rw [if_pos (Or.inl h.1)] at hi
      rw [fS, fS, if_pos h.1, if_pos h.1]
      show upd s.1 s.2 _ i = upd s'.1 s'.2 _ i
      rw [g1, g2]
      by_cases hi2 : i = hgt c j
      · rw [hi2, upd_eq, upd_eq]
      · rw [upd_ne hi2, upd_ne hi2]; exact ih i (by omega)
    · have h1 : ¬ (c j).1 = 1 := by rw [h.1]; decide
      rw [if_pos (Or.inr h.1)] at hi
      rw [fS, fS, if_neg h1, if_neg h1, if_pos h.1, if_pos h.1]
      show upd s.1 s.2 _ i = upd s'.1 s'.2 _ i
      rw [g1, g2]
      by_cases hi2 : i = hgt c j
      · rw [hi2, upd_eq, upd_eq]
        obtain ⟨a, ha, ea⟩ := h.2.1
        rw [ea, xi_cl (hf a ha).1]; exact (hf a ha).2
      · rw [upd_ne hi2, upd_ne hi2]; exact ih i (by omega)
    · have h1 : ¬ (c j).1 = 1 := by rw [h.1]; decide
      have h2 : ¬ (c j).1 = 2 := by rw [h.1]; decide
      rw [if_neg (fun z => z.elim h1 h2), if_pos h.1] at hi
      rw [fS, fS, if_neg h1, if_neg h1, if_neg h2, if_neg h2, if_pos h.1, if_pos h.1]
      show upd s.1 (s.2 - 1) _ i = upd s'.1 (s'.2 - 1) _ i
      rw [g1, g2]
      by_cases hi2 : i = hgt c j - 1
      · rw [hi2, upd_eq, upd_eq, ih _ (by omega)]
      · rw [upd_ne hi2, upd_ne hi2]; exact ih i (by omega)
    · obtain ⟨h1, h2, h3⟩ := okC_4 h.1
      rw [if_neg (fun z => z.elim h1 h2), if_neg h3] at hi
      rw [fS, fS, if_neg h1, if_neg h1, if_neg h2, if_neg h2, if_neg h3, if_neg h3]
      show upd s.1 (s.2 - 1 - 1) _ i = upd s'.1 (s'.2 - 1 - 1) _ i
      rw [g1, g2]
      by_cases hi2 : i = hgt c j - 1 - 1
      · rw [hi2, upd_eq, upd_eq, ih _ (by omega), ih _ (by omega)]
      · rw [upd_ne hi2, upd_ne hi2]; exact ih i (by omega)
/-- the worth of a code -/
def wrt (f : Nat → Int32) (c : Nat → Int32 × Int32) (l : Nat) : Int32 := (fR f c l (fun _ => 0, 0)).1 0
theorem wrt_eq {fa : Nat → Prop} {f f' : Nat → Int32} (hf : ∀ a, fa a → a < 2147483648 ∧ f a = f' a) {c : Nat → Int32 × Int32} {l : Nat} (w : WFC fa c l) (p : Nat → Int32) : (fR f c l (p, 0)).1 0 = wrt f' c l := fR_eq hf w p _ l (Nat.le_refl l) 0 (by rw [w.2.1]; decide)
/-! Months. -/
def clamp9 (v : Int32) : Int32 := if v < 0 then 0 else if 9999 < v then 9999 else v
/-- a house's formula: none, or a code and its length -/
abbrev Fml : Type := Option ((Nat → Int32 × Int32) × Nat)
def dueV (D : Fml) (beats floor kind : Int32) : Int32 := clamp9 (match D with
  | none => beats + floor
  | some c => wrt (fun a => if a = 0 then beats else if a = 1 then floor else kind) c.1 c.2)
/-- one is counted -/
def cntS (H : Nat → Int32) (br : Int32) (n k : Nat) (p : (Nat → Int32) × Int32) : (Nat → Int32) × Int32 := if p.1 (1 + k) = -1 then p else (upd p.1 (7 + k) (p.1 (7 + k) + pRv H p.1 br n 0 k * H 5), p.2 + pRv H p.1 br n 0 k * H 5)
def calS (H : Nat → Int32) (k : Nat) (B : Nat → Int32) : Nat → Int32 := upd (upd B (13 + k) (clV H k (B (13 + k)))) (19 + k) (cuV (B (19 + k)))
def isCnt (H : Nat → Int32) (m : Int32) : Prop := m - m / H 5 * H 5 = 0
/-- a minute: the block behind it, and what was counted -/
def cntP (H : Nat → Int32) (br : Int32) (n : Nat) (B : Nat → Int32) : (Nat → Int32) × Int32 := if B 0 - B 0 / H 5 * H 5 = 0 then itB (cntS H br n) n (B, 0) else (B, 0)
def minB (H : Nat → Int32) (br : Int32) (n : Nat) (B : Nat → Int32) : Nat → Int32 := upd (itB (calS H) n (cntP H br n B).1) 0 (itB (calS H) n (cntP H br n B).1 0 + 1)
def minV (H : Nat → Int32) (br : Int32) (n : Nat) (B : Nat → Int32) : Int32 := (cntP H br n B).2
/-- minutes -/
def minsP (H : Nat → Int32) (br : Int32) (n m : Nat) (B : Nat → Int32) : (Nat → Int32) × Int32 := itB (fun _ p => (minB H br n p.1, p.2 + minV H br n p.1)) m (B, 0)
def dueB (H : Nat → Int32) (D : Fml) (B : Nat → Int32) (k : Nat) : Int32 := dueV D (B (7 + k)) (H (8 + 3 * (B (1 + k)).toNatClampNeg + 2)) (H (26 + 5 * k))
def paysV (due coins : Int32) : Int32 := if due < coins then due else coins
def nooS (H : Nat → Int32) (D : Fml) (k : Nat) (p : (Nat → Int32) × Int32) : (Nat → Int32) × Int32 := if p.1 (1 + k) = -1 then p else
  if dueB H D p.1 k ≤ p.1 (31 + k) ∨ (H (26 + 5 * k) = 3 ∧ dueB H D p.1 k - p.1 (31 + k) ≤ 99) then (upd p.1 (31 + k) (p.1 (31 + k) - paysV (dueB H D p.1 k) (p.1 (31 + k))), p.2 + paysV (dueB H D p.1 k) (p.1 (31 + k)))
  else (upd (upd p.1 (1 + k) (-1)) (37 + k) 1, p.2)
def clrS (k : Nat) (B : Nat → Int32) : Nat → Int32 := upd B (7 + k) 0
def nooP (H : Nat → Int32) (D : Fml) (n : Nat) (B : Nat → Int32) : (Nat → Int32) × Int32 := (itB clrS n (itB (nooS H D) n (B, 0)).1, (itB (nooS H D) n (B, 0)).2)
theorem WFB.u7 {nr n K k : Nat} {B : Nat → Int32} (w : WFB nr n K B) (hk : k < n) (hn6 : n ≤ 6) (v : Int32) : WFB nr n K (upd B (7 + k) v) := by
  refine ⟨fun t ht => ?_, fun t e ht he hne => ?_, fun t ht hn => ?_, fun t ht => ?_⟩
  · rw [upd_ne (by omega)]; exact w.1 t ht
  · rw [upd_ne (by omega), upd_ne (by omega)]; exact w.2.1 t e ht he hne
  · rw [upd_ne (by omega), upd_ne (by omega), upd_ne (by omega), upd_ne (by omega), upd_ne (by omega), upd_ne (by omega)]; exact w.2.2.1 t ht hn
  · rw [upd_ne (by omega), upd_ne (by omega), upd_ne (by omega), upd_ne (by omega), upd_ne (by omega), upd_ne (by omega)]; exact w.2.2.2 t ht
theorem WFB.u13 {nr n K k : Nat} {B : Nat → Int32} (w : WFB nr n K B) (hk : k < n) (hn6 : n ≤ 6) {v : Int32} (hv : K ≤ 10000000 → ∃ c, c ≤ 100 * K ∧ v = nI c) : WFB nr n K (upd B (13 + k) v) := by
  refine ⟨fun t ht => ?_, fun t e ht he hne => ?_, fun t ht hn => ?_, fun t ht => ?_⟩
  · rw [upd_ne (by omega)]; exact w.1 t ht
  · rw [upd_ne (by omega), upd_ne (by omega)]; exact w.2.1 t e ht he hne
  · rw [upd_ne (by omega), upd_ne (by omega), upd_ne (by omega), upd_ne (by omega), upd_ne (by omega), upd_ne (by omega)]; exact w.2.2.1 t ht hn
  · rw [upd_ne (show ¬ 19 + t = 13 + k by omega), upd_ne (show ¬ 25 + t = 13 + k by omega), upd_ne (show ¬ 31 + t = 13 + k by omega), upd_ne (show ¬ 37 + t = 13 + k by omega), upd_ne (show ¬ 1 + t = 13 + k by omega)]
    refine ⟨(w.2.2.2 t ht).1, (w.2.2.2 t ht).2.1, (w.2.2.2 t ht).2.2.1, (w.2.2.2 t ht).2.2.2.1, (w.2.2.2 t ht).2.2.2.2.1, ?_⟩
    by_cases e : t = k
    · subst e; rw [upd_eq]; exact hv
    · rw [upd_ne (by omega)]; exact (w.2.2.2 t ht).2.2.2.2.2
theorem WFB.u0 {nr n K : Nat} {B : Nat → Int32} (w : WFB nr n K B) (v : Int32) : WFB nr n K (upd B 0 v) := by
  refine ⟨fun t ht => ?_, fun t e ht he hne => ?_, fun t ht hn => ?_, fun t ht => ?_⟩
  · rw [upd_ne (by omega)]; exact w.1 t ht
  · rw [upd_ne (by omega), upd_ne (by omega)]; exact w.2.1 t e ht he hne
  · rw [upd_ne (by omega), upd_ne (by omega), upd_ne (by omega), upd_ne (by omega), upd_ne (by omega), upd_ne (by omega)]; exact w.2.2.1 t ht hn
  · rw [upd_ne (by omega), upd_ne (by omega), upd_ne (by omega), upd_ne (by omega), upd_ne (by omega), upd_ne (by omega)]; exact w.2.2.2 t ht
theorem WFB.u19 {nr n K k c : Nat} {B : Nat → Int32} (w : WFB nr n K B) (hk : k < n) (hn6 : n ≤ 6) {v : Int32} (hc : c ≤ 120) (hv : v = nI c) : WFB nr n K (upd B (19 + k) v) := by
  refine ⟨fun t ht => ?_, fun t e ht he hne => ?_, fun t ht hn => ?_, fun t ht => ?_⟩
  · rw [upd_ne (by omega)]; exact w.1 t ht
  · rw [upd_ne (by omega), upd_ne (by omega)]; exact w.2.1 t e ht he hne
  · rw [upd_ne (by omega), upd_ne (by omega), upd_ne (by omega), upd_ne (by omega), upd_ne (by omega), upd_ne (by omega)]; exact w.2.2.1 t ht hn
  · rw [upd_ne (show ¬ 13 + t = 19 + k by omega), upd_ne (show ¬ 25 + t = 19 + k by omega), upd_ne (show ¬ 31 + t = 19 + k by omega), upd_ne (show ¬ 37 + t = 19 + k by omega), upd_ne (show ¬ 1 + t = 19 + k by omega)]
    refine ⟨?_, (w.2.2.2 t ht).2⟩
    by_cases e : t = k
    · subst e; rw [upd_eq]; exact ⟨c, hc, hv⟩
    · rw [upd_ne (by omega)]; exact (w.2.2.2 t ht).1
theorem WFB.u25 {nr n K k c : Nat} {B : Nat → Int32} (w : WFB nr n K B) (hk : k < n) (hn6 : n ≤ 6) {v : Int32} (hc : c ≤ K) (hv : v = nI c) : WFB nr n K (upd B (25 + k) v) := by
  refine ⟨fun t ht => ?_, fun t e ht he hne => ?_, fun t ht hn => ?_, fun t ht => ?_⟩
  · rw [upd_ne (by omega)]; exact w.1 t ht
  · rw [upd_ne (by omega), upd_ne (by omega)]; exact w.2.1 t e ht he hne
  · rw [upd_ne (by omega), upd_ne (by omega), upd_ne (by omega), upd_ne (by omega), upd_ne (by omega), upd_ne (by omega)]; exact w.2.2.1 t ht hn
  · rw [upd_ne (show ¬ 13 + t = 25 + k by omega), upd_ne (show ¬ 19 + t = 25 + k by omega), upd_ne (show ¬ 31 + t = 25 + k by omega), upd_ne (show ¬ 37 + t = 25 + k by omega), upd_ne (show ¬ 1 + t = 25 + k by omega)]
    refine ⟨(w.2.2.2 t ht).1, ?_, (w.2.2.2 t ht).2.2⟩
    by_cases e : t = k
    · subst e; rw [upd_eq]; exact ⟨c, hc, hv⟩
    · rw [upd_ne (by omega)]; exact (w.2.2.2 t ht).2.1
theorem WFB.u31 {nr n K k c : Nat} {B : Nat → Int32} (w : WFB nr n K B) (hk : k < n) (hn6 : n ≤ 6) {v : Int32} (hc : c ≤ 9999) (hv : v = nI c) : WFB nr n K (upd B (31 + k) v) := by
  refine ⟨fun t ht => ?_, fun t e ht he hne => ?_, fun t ht hn => ?_, fun t ht => ?_⟩
  · rw [upd_ne (by omega)]; exact w.1 t ht
  · rw [upd_ne (by omega), upd_ne (by omega)]; exact w.2.1 t e ht he hne
  · rw [upd_ne (by omega), upd_ne (by omega), upd_ne (by omega), upd_ne (by omega), upd_ne (by omega), upd_ne (by omega)]; exact w.2.2.1 t ht hn
  · rw [upd_ne (show ¬ 13 + t = 31 + k by omega), upd_ne (show ¬ 19 + t = 31 + k by omega), upd_ne (show ¬ 25 + t = 31 + k by omega), upd_ne (show ¬ 37 + t = 31 + k by omega), upd_ne (show ¬ 1 + t = 31 + k by omega)]
    refine ⟨(w.2.2.2 t ht).1, (w.2.2.2 t ht).2.1, ?_, (w.2.2.2 t ht).2.2.2⟩
    by_cases e : t = k
    · subst e; rw [upd_eq]; exact ⟨c, hc, hv⟩
    · rw [upd_ne (by omega)]; exact (w.2.2.2 t ht).2.2.1
/-- one is evicted -/
theorem WFB.ev {nr n K k : Nat} {B : Nat → Int32} (w : WFB nr n K B) (hk : k < n) (hn6 : n ≤ 6) : WFB nr n K (upd (upd B (1 + k) (-1)) (37 + k) 1) := by
  refine ⟨fun t ht => ?_, fun t e ht he hne => ?_, fun t ht hn => ?_, fun t ht => ?_⟩
  · rw [upd_ne (by omega)]
    by_cases e : t = k
    · subst e; rw [upd_eq]; exact Or.inl rfl
    · rw [upd_ne (by omega)]; exact w.1 t ht
  · rw [upd_ne (show ¬ 1 + t = 37 + k by omega), upd_ne (show ¬ 1 + e = 37 + k by omega)]
    by_cases e1 : t = k
    · subst e1; rw [upd_eq]; exact fun _ => rfl
    · rw [upd_ne (by omega)]
      by_cases e2 : e = k
      · subst e2; rw [upd_eq]; exact fun z => z
      · rw [upd_ne (by omega)]; exact w.2.1 t e ht he hne
  · rw [upd_ne (by omega), upd_ne (by omega), upd_ne (by omega), upd_ne (by omega), upd_ne (by omega), upd_ne (by omega), upd_ne (by omega), upd_ne (by omega), upd_ne (by omega), upd_ne (by omega), upd_ne (by omega), upd_ne (by omega)]; exact w.2.2.1 t ht hn
  · rw [upd_ne (show ¬ 13 + t = 37 + k by omega), upd_ne (show ¬ 13 + t = 1 + k by omega), upd_ne (show ¬ 19 + t = 37 + k by omega), upd_ne (show ¬ 25 + t = 37 + k by omega), upd_ne (show ¬ 31 + t = 37 + k by omega), upd_ne (show ¬ 1 + t = 37 + k by omega), upd_ne (show ¬ 19 + t = 1 + k by omega), upd_ne (show ¬ 25 + t = 1 + k by omega), upd_ne (show ¬ 31 + t = 1 + k by omega)]
    refine ⟨(w.2.2.2 t ht).1, (w.2.2.2 t ht).2.1, (w.2.2.2 t ht).2.2.1, ?_⟩
    by_cases e : t = k
    · subst e; rw [upd_eq, upd_eq]; exact ⟨Or.inr rfl, fun _ => rfl, (w.2.2.2 t ht).2.2.2.2.2⟩
    · rw [upd_ne (show ¬ 37 + t = 37 + k by omega), upd_ne (show ¬ 37 + t = 1 + k by omega), upd_ne (show ¬ 1 + t = 1 + k by omega)]; exact (w.2.2.2 t ht).2.2.2
/-- one moves into a room where nobody is -/
theorem WFB.mv {nr n K k r : Nat} {B : Nat → Int32} (w : WFB nr n K B) (hk : k < n) (hn6 : n ≤ 6) (hr : r < nr) (hg : ¬ B (37 + k) = 1) (hf : ∀ t, t < 6 → ¬ B (1 + t) = nI r) : WFB nr n K (upd B (1 + k) (nI r)) := by
  refine ⟨fun t ht => ?_, fun t e ht he hne => ?_, fun t ht hn => ?_, fun t ht => ?_⟩
  · by_cases e : t = k
    · subst e; rw [upd_eq]; exact Or.inr ⟨hk, r, hr, rfl⟩
    · rw [upd_ne (by omega)]; exact w.1 t ht
  · by_cases e1 : t = k
    · subst e1; rw [upd_eq, upd_ne (by omega)]; exact fun z => absurd z.symm (hf e he)
    · rw [upd_ne (by omega)]
      by_cases e2 : e = k
      · subst e2; rw [upd_eq]; exact fun z => absurd z (hf t ht)
      · rw [upd_ne (by omega)]; exact w.2.1 t e ht he hne
  · rw [upd_ne (by omega), upd_ne (by omega), upd_ne (by omega), upd_ne (by omega), upd_ne (by omega), upd_ne (by omega)]; exact w.2.2.1 t ht hn
  · rw [upd_ne (show ¬ 13 + t = 1 + k by omega), upd_ne (show ¬ 19 + t = 1 + k by omega), upd_ne (show ¬ 25 + t = 1 + k by omega), upd_ne (show ¬ 31 + t = 1 + k by omega), upd_ne (show ¬ 37 + t = 1 + k by omega)]
    refine ⟨(w.2.2.2 t ht).1, (w.2.2.2 t ht).2.1, (w.2.2.2 t ht).2.2.1, (w.2.2.2 t ht).2.2.2.1, fun z => ?_, (w.2.2.2 t ht).2.2.2.2.2⟩
    by_cases e : t = k
    · subst e; exact absurd z hg
    · rw [upd_ne (by omega)]; exact (w.2.2.2 t ht).2.2.2.2.1 z
theorem WFB.K {nr n K K' : Nat} {B : Nat → Int32} (w : WFB nr n K B) (h : K ≤ K') : WFB nr n K' B := ⟨w.1, w.2.1, w.2.2.1, fun t ht => ⟨(w.2.2.2 t ht).1, (w.2.2.2 t ht).2.1.elim (fun c hc => ⟨c, by omega, hc.2⟩), (w.2.2.2 t ht).2.2.1, (w.2.2.2 t ht).2.2.2.1, (w.2.2.2 t ht).2.2.2.2.1, fun hK => ((w.2.2.2 t ht).2.2.2.2.2 (by omega)).elim (fun c hc => ⟨c, by omega, hc.2⟩)⟩⟩
theorem WFB.eqv {nr n K : Nat} {B B' : Nat → Int32} (w : WFB nr n K B) (e : EqB B B') : WFB nr n K B' := by
  refine ⟨fun t ht => ?_, fun t s ht he hne => ?_, fun t ht hn => ?_, fun t ht => ?_⟩
  · rw [← e _ (show 1 + t < 43 by omega)]; exact w.1 t ht
  · rw [← e _ (show 1 + t < 43 by omega), ← e _ (show 1 + s < 43 by omega)]; exact w.2.1 t s ht he hne
  · rw [← e _ (show 7 + t < 43 by omega), ← e _ (show 13 + t < 43 by omega), ← e _ (show 19 + t < 43 by omega), ← e _ (show 25 + t < 43 by omega), ← e _ (show 31 + t < 43 by omega), ← e _ (show 37 + t < 43 by omega)]; exact w.2.2.1 t ht hn
  · rw [← e _ (show 19 + t < 43 by omega), ← e _ (show 25 + t < 43 by omega), ← e _ (show 31 + t < 43 by omega), ← e _ (show 37 + t < 43 by omega), ← e _ (show 1 + t < 43 by omega), ← e _ (show 13 + t < 43 by omega)]; exact w.2.2.2 t ht
theorem cu_le {v : Int32} {c : Nat} (hc : c ≤ 120) (hv : v = nI c) : cuV v = nI (c - 1) := by
  subst hv
  unfold cuV
  simp only [xle_0 (show c < 2147483648 by omega)]
  by_cases h : c ≤ 0
  · obtain rfl : c = 0 := by omega
    rfl
  · rw [if_neg h, xs_1 (by omega)]
theorem cl_div {a b : Nat} (ha : a < 2147483648) (hb : b < 2147483648) : nI a / nI b = nI (a / b) := by
  have hd : a / b < 2147483648 := Nat.lt_of_le_of_lt (Nat.div_le_self a b) ha
  apply Int32.toInt_inj.mp
  rw [Int32.toInt_div, nI_toInt ha, nI_toInt hb, ← Int.ofNat_tdiv, nI_toInt hd, Int.bmod_def]
  generalize a / b = x at hd ⊢
  split <;> omega
/-- what stirs one: it stays a number, and falls -/
theorem cl_le {H : Nat → Int32} {k c : Nat} {v : Int32} (hb : c < 2147483648) (hv : v = nI c) : ∃ e, e ≤ c ∧ clV H k v = nI e := by
  unfold clV
  rw [hv]
  by_cases h : H (26 + 5 * k) = 1
  · rw [if_pos h, show (4 : Int32) = nI 4 from rfl, cl_div hb (by decide)]; exact ⟨c / 4, Nat.div_le_self _ _, rfl⟩
  · rw [if_neg h, show (2 : Int32) = nI 2 from rfl, cl_div hb (by decide)]; exact ⟨c / 2, Nat.div_le_self _ _, rfl⟩
theorem WFB.cal {nr n K k : Nat} {B H : Nat → Int32} (w : WFB nr n K B) (hk : k < n) (hn6 : n ≤ 6) : WFB nr n K (calS H k B) := by
  obtain ⟨c, hc, hv⟩ := (w.2.2.2 k (by omega)).1
  refine (w.u13 hk hn6 (fun hK => ?_)).u19 hk hn6 (show c - 1 ≤ 120 by omega) (cu_le hc hv)
  obtain ⟨s, hs, es⟩ := (w.2.2.2 k (by omega)).2.2.2.2.2 hK
  obtain ⟨z, hz, ez⟩ := cl_le (H := H) (k := k) (show s < 2147483648 by omega) es
  exact ⟨z, by omega, ez⟩
theorem WFB.cnt {nr n K k : Nat} {H : Nat → Int32} {br : Int32} {p : (Nat → Int32) × Int32} (w : WFB nr n K p.1) (hk : k < n) (hn6 : n ≤ 6) : WFB nr n K (cntS H br n k p).1 := by
  unfold cntS
  by_cases h : p.1 (1 + k) = -1
  · rw [if_pos h]; exact w
  · rw [if_neg h]; exact w.u7 hk hn6 _
theorem WFB.cntP {nr n K : Nat} {H B : Nat → Int32} {br : Int32} (w : WFB nr n K B) (hn6 : n ≤ 6) : WFB nr n K (cntP H br n B).1 := by
  show WFB nr n K (if B 0 - B 0 / H 5 * H 5 = 0 then itB (cntS H br n) n (B, 0) else (B, 0)).1
  split
  · exact itB_inv (f := cntS H br n) (P := fun p : (Nat → Int32) × Int32 => WFB nr n K p.1) (fun k x hk hx => WFB.cnt hx hk hn6) n (B, 0) (Nat.le_refl n) w
  · exact w
theorem WFB.calI {nr n K : Nat} {H B : Nat → Int32} (w : WFB nr n K B) (hn6 : n ≤ 6) : WFB nr n K (itB (calS H) n B) := itB_inv (P := fun B => WFB nr n K B) (fun k x hk hx => WFB.cal hx hk hn6) n B (Nat.le_refl n) w
theorem WFB.min {nr n K : Nat} {H B : Nat → Int32} {br : Int32} (w : WFB nr n K B) (hn6 : n ≤ 6) : WFB nr n K (minB H br n B) := ((w.cntP hn6).calI hn6).u0 _
theorem WFB.mins {nr n K m : Nat} {H B : Nat → Int32} {br : Int32} (w : WFB nr n K B) (hn6 : n ≤ 6) : WFB nr n K (minsP H br n m B).1 := itB_inv (n := m) (P := fun p : (Nat → Int32) × Int32 => WFB nr n K p.1) (fun k x hk hx => WFB.min hx hn6) m (B, 0) (Nat.le_refl m) w
theorem WFB.noo {nr n K k : Nat} {H : Nat → Int32} {D : Fml} {p : (Nat → Int32) × Int32} (w : WFB nr n K p.1) (hk : k < n) (hn6 : n ≤ 6) (hd : ∀ B, ∃ a, a ≤ 9999 ∧ dueB H D B k = nI a) : WFB nr n K (nooS H D k p).1 := by
  unfold nooS
  by_cases h : p.1 (1 + k) = -1
  · rw [if_pos h]; exact w
  · rw [if_neg h]
    obtain ⟨a, ha, e⟩ := hd p.1
    obtain ⟨c, hc, e2⟩ := (w.2.2.2 k (by omega)).2.2.1
    rw [e, e2]
    split
    · show WFB nr n K (upd p.1 (31 + k) _)
      unfold paysV
      simp only [xi_lt (show a < 2147483648 by omega) (show c < 2147483648 by omega)]
      by_cases hac : a < c
      · rw [if_pos hac, xi_sub (by omega)]; exact w.u31 hk hn6 (show c - a ≤ 9999 by omega) rfl
      · rw [if_neg hac, xi_sub (by omega)]; exact w.u31 hk hn6 (show c - c ≤ 9999 by omega) rfl
    · exact w.ev hk hn6
theorem cl9 (v : Int32) : ∃ a, a ≤ 9999 ∧ clamp9 v = nI a := by
  unfold clamp9
  by_cases h : v < 0
  · exact ⟨0, by omega, by rw [if_pos h]; rfl⟩
  · rw [if_neg h]
    by_cases h2 : 9999 < v
    · exact ⟨9999, by omega, by rw [if_pos h2]; rfl⟩
    · rw [if_neg h2]
      have h0 : (0 : Int) ≤ v.toInt := by
        have := Int32.le_iff_toInt_le.mp (Int32.not_lt.mp h)
        simpa using this
      have h9 : v.toInt ≤ 9999 := by
        have := Int32.le_iff_toInt_le.mp (Int32.not_lt.mp h2)
        simpa using this
      refine ⟨v.toNatClampNeg, ?_, ?_⟩
      · have : (v.toNatClampNeg : Int) = v.toInt := by rw [Int32.toNatClampNeg]; omega
        omega
      · unfold nI
        apply Int32.toInt_inj.mp
        have e1 : ((v.toNatClampNeg : Nat) : Int) = v.toInt := by rw [Int32.toNatClampNeg]; omega
        rw [Int32.toInt_ofNat_of_lt (by omega), e1]
theorem due9 {H : Nat → Int32} {D : Fml} {k : Nat} : ∀ B, ∃ a, a ≤ 9999 ∧ dueB H D B k = nI a := fun B => cl9 _
theorem WFB.clr {nr n K : Nat} {B : Nat → Int32} (w : WFB nr n K B) (hn6 : n ≤ 6) : WFB nr n K (itB clrS n B) := itB_inv (P := fun B => WFB nr n K B) (fun k x hk hx => hx.u7 hk hn6 _) n B (Nat.le_refl n) w
theorem WFB.nooI {nr n K j : Nat} {H B : Nat → Int32} {D : Fml} (w : WFB nr n K B) (hn6 : n ≤ 6) (hj : j ≤ n) : WFB nr n K (itB (nooS H D) j (B, 0)).1 := itB_inv (n := n) (P := fun p : (Nat → Int32) × Int32 => WFB nr n K p.1) (fun k x hk hx => WFB.noo hx hk hn6 due9) j (B, 0) hj w
theorem WFB.nooP {nr n K : Nat} {H B : Nat → Int32} {D : Fml} (w : WFB nr n K B) (hn6 : n ≤ 6) : WFB nr n K (nooP H D n B).1 := (w.nooI hn6 (Nat.le_refl n)).clr hn6
