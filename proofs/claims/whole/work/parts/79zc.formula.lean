/-! Formulas: how they are read; their mathematics. -/
/-- where one is, the code, its length -/
abbrev Fs : Type := Cu × (Nat → Int32 × Int32) × Nat
def updC (c : Nat → Int32 × Int32) (i : Nat) (v : Int32 × Int32) : Nat → Int32 × Int32 := fun j => if j = i then v else c j
def aEm (k : Int32 × Int32) (s : Fs) : Fs := (s.1, updC s.2.1 s.2.2 k, s.2.2 + 1)
def aCr (f : Cu → Cu) (s : Fs) : Fs := (f s.1, s.2)
/-- which join stands here -/
def tP (cs : Nat → Nat) (sz : Nat) (c : Cu) : Option Int32 := if aS cs sz 42 c = true then some 6 else none
def tS (cs : Nat → Nat) (sz : Nat) (c : Cu) : Option Int32 := if aS cs sz 43 c = true then some 4 else if aS cs sz 45 c = true then some 5 else none
def tT (cs : Nat → Nat) (sz : Nat) (c : Cu) : Option Int32 := if aS cs sz 60 c = true then some 7 else if aS cs sz 61 c = true then some 8 else none
def tA (cs : Nat → Nat) (sz : Nat) (c : Cu) : Option Int32 := if aW cs sz 30 c = true then some 9 else if aW cs sz 31 c = true then some 10 else none
def lpB (t : Cu → Option Int32) (rd : Fs → Fs) : Nat → Fs → Fs
  | 0, s => s
  | f + 1, s => match t s.1 with
    | none => s
    | some k => lpB t rd f (aEm (k, 0) (rd (aCr aAd s)))
def aPro (cs : Nat → Nat) (sz : Nat) (prt : Fs → Fs) (s : Fs) : Fs := lpB (tP cs sz) prt 1000 (prt s)
def aSum (cs : Nat → Nat) (sz : Nat) (prt : Fs → Fs) (s : Fs) : Fs := lpB (tS cs sz) (aPro cs sz prt) 1000 (aPro cs sz prt s)
def aTst (cs : Nat → Nat) (sz : Nat) (prt : Fs → Fs) (s : Fs) : Fs := lpB (tT cs sz) (aSum cs sz prt) 1 (aSum cs sz prt s)
def aAll (cs : Nat → Nat) (sz : Nat) (prt : Fs → Fs) (s : Fs) : Fs := lpB (tA cs sz) (aTst cs sz prt) 1000 (aTst cs sz prt s)
/-- which fact, of those that may stand -/
def aFc (cs : Nat → Nat) (sz : Nat) (fb : Nat → Bool) (c : Cu) : Option Nat := match aWH cs sz 32 5 c with
  | none => none
  | some k => if fb k = true then some k else none
def aBg (cs : Nat → Nat) (sz : Nat) (fb : Nat → Bool) (c : Cu) : Bool := aS cs sz 40 c || (aW cs sz 29 c || ((aFc cs sz fb c).isSome || aN cs sz c))
def aPt (cs : Nat → Nat) (sz : Nat) (fb : Nat → Bool) : Nat → Fs → Fs
  | 0, s => if aBg cs sz fb s.1 = true then aCr (aFl cs sz 5) s else aCr (aFl cs sz 1) s
  | r + 1, s => if aBg cs sz fb s.1 = true then
      (if aS cs sz 40 s.1 = true then aCr (aNS cs sz 41) (aAll cs sz (aPt cs sz fb r) (aCr aAd s))
       else if aW cs sz 29 s.1 = true then aEm (3, 0) (aPt cs sz fb r (aCr aAd s))
       else match aFc cs sz fb s.1 with
         | some k => aCr aAd (aEm (2, nI k) s)
         | none => aCr aAd (aEm (1, nI (aVal cs sz s.1)) s))
    else aCr (aFl cs sz 1) s
section FML
variable {cs : Nat → Nat} {sz : Nat}
theorem updC_e {c : Nat → Int32 × Int32} {i : Nat} {v : Int32 × Int32} : updC c i v i = v := by unfold updC; rw [if_pos rfl]
theorem updC_n {c : Nat → Int32 × Int32} {i j : Nat} {v : Int32 × Int32} (h : ¬ j = i) : updC c i v j = c j := by unfold updC; rw [if_neg h]
def Gr (s s' : Fs) : Prop := s.1.1 ≤ s'.1.1 ∧ s.2.2 ≤ s'.2.2 ∧ s'.2.2 + s.1.1 ≤ s.2.2 + s'.1.1 ∧ (∀ j, j < s.2.2 → s'.2.1 j = s.2.1 j) ∧ (s.1.1 ≤ 1000 → s'.1.1 ≤ 1000) ∧ (¬ s.1.2 = 0 → s' = s) ∧ (s.1.2 ≤ 20000 → s'.1.2 ≤ 20000)
theorem Gr.refl (s : Fs) : Gr s s := ⟨Nat.le_refl _, Nat.le_refl _, Nat.le_refl _, fun _ _ => rfl, fun h => h, fun _ => rfl, fun h => h⟩
theorem Gr.trans {a b c : Fs} (x : Gr a b) (y : Gr b c) : Gr a c := by
  obtain ⟨x1, x2, x3, x4, x5, x6, x7⟩ := x
  obtain ⟨y1, y2, y3, y4, y5, y6, y7⟩ := y
  refine ⟨by omega, by omega, by omega, fun j hj => (y4 j (by omega)).trans (x4 j hj), fun h => y5 (x5 h), fun h => ?_, fun h => y7 (x7 h)⟩
  have e := x6 h
  subst e
  exact y6 h
theorem Gr.f0 {a b : Fs} (x : Gr a b) (h : b.1.2 = 0) : a.1.2 = 0 := Classical.byContradiction fun z => by
  have e := x.2.2.2.2.2.1 z
  rw [e] at h
  exact z h
/-- a cursor that only moves on, or fails -/
def Cg (c c' : Cu) : Prop := c.1 ≤ c'.1 ∧ (c.1 ≤ 1000 → c'.1 ≤ 1000) ∧ (¬ c.2 = 0 → c' = c) ∧ (c.2 ≤ 20000 → c'.2 ≤ 20000)
theorem Cg.refl (c : Cu) : Cg c c := ⟨Nat.le_refl _, fun h => h, fun _ => rfl, fun h => h⟩
theorem Cg.trans {a b c : Cu} (x : Cg a b) (y : Cg b c) : Cg a c := by
  obtain ⟨x1, x2, x3, x4⟩ := x
  obtain ⟨y1, y2, y3, y4⟩ := y
  refine ⟨by omega, fun h => y2 (x2 h), fun h => ?_, fun h => y4 (x4 h)⟩
  have e := x3 h
  subst e
  exact y3 h
theorem Cg.f0 {a b : Cu} (x : Cg a b) (h : b.2 = 0) : a.2 = 0 := Classical.byContradiction fun z => by
  have e := x.2.2.1 z
  rw [e] at h
  exact z h
theorem Cg_cr {f : Cu → Cu} {s : Fs} (h : Cg s.1 (f s.1)) : Gr s (aCr f s) := ⟨h.1, Nat.le_refl _, by have := h.1; unfold aCr; dsimp only; omega, fun _ _ => rfl, h.2.1, fun z => by unfold aCr; rw [h.2.2.1 z], h.2.2.2⟩
theorem Cg_fl {w : Nat} (hs : sz ≤ 1000) (hw : w ≤ 5) (c : Cu) : Cg c (aFl cs sz w c) := ⟨by rw [aFl_1]; exact Nat.le_refl _, by rw [aFl_1]; exact fun h => h, fun z => by unfold aFl; rw [if_neg z], aFl_b hs hw⟩
theorem tok_lt (hs : sz ≤ 1000) {c : Cu} (h : ¬ tK cs sz (sP cs sz c.1) = 0) : c.1 + 1 ≤ 1000 := by
  have h1 := tK4 h
  have := sP_ge cs sz c.1 h1
  omega
theorem Cg_ad (hs : sz ≤ 1000) {c : Cu} (h : c.2 = 0 → ¬ tK cs sz (sP cs sz c.1) = 0) : Cg c (aAd c) := by
  refine ⟨aAd_1, fun h1 => ?_, fun z => by unfold aAd; rw [if_neg z], aAd_b⟩
  unfold aAd
  split
  · rename_i z; exact tok_lt hs (h z)
  · exact h1
theorem Cg_ns (hs : sz ≤ 1000) (ch : Nat) (c : Cu) : Cg c (aNS cs sz ch c) := by
  unfold aNS
  split
  · rename_i z; exact Cg_ad hs (fun _ => (aS_t z).2)
  · exact Cg_fl hs (by decide) c
theorem Cg_nw (hs : sz ≤ 1000) (j : Nat) (c : Cu) : Cg c (aNW cs sz j c) := by
  unfold aNW
  split
  · rename_i z; exact Cg_ad hs (fun _ => (aW_t z).2)
  · exact Cg_fl hs (by decide) c
theorem Cg_nn (hs : sz ≤ 1000) (lo hi : Nat) (c : Cu) : Cg c (aNN cs sz lo hi c) := by
  unfold aNN
  split
  · rename_i z
    split
    · exact Cg_ad hs (fun _ => (aN_t z).2)
    · exact Cg_fl hs (by decide) c
  · exact Cg_fl hs (by decide) c
theorem Cg_see (hs : sz ≤ 1000) (o : Option Nat) (c : Cu) : Cg c (aSee cs sz o c) := by
  unfold aSee
  split
  · cases o with
    | none => exact Cg_fl hs (by decide) c
    | some r => exact Cg.refl c
  · exact Cg_fl hs (by decide) c
def tOK (cs : Nat → Nat) (sz : Nat) (t : Cu → Option Int32) : Prop := ∀ c k, t c = some k → c.2 = 0 ∧ ¬ tK cs sz (sP cs sz c.1) = 0 ∧ ∃ a, 4 ≤ a ∧ a ≤ 10 ∧ k = nI a
theorem tP_ok : tOK cs sz (tP cs sz) := fun c k h => by
  unfold tP at h
  split at h
  · rename_i z; cases h; exact ⟨(aS_t z).1, (aS_t z).2, 6, by decide, by decide, rfl⟩
  · cases h
theorem tS_ok : tOK cs sz (tS cs sz) := fun c k h => by
  unfold tS at h
  split at h
  · rename_i z; cases h; exact ⟨(aS_t z).1, (aS_t z).2, 4, by decide, by decide, rfl⟩
  · split at h
    · rename_i z; cases h; exact ⟨(aS_t z).1, (aS_t z).2, 5, by decide, by decide, rfl⟩
    · cases h
theorem tT_ok : tOK cs sz (tT cs sz) := fun c k h => by
  unfold tT at h
  split at h
  · rename_i z; cases h; exact ⟨(aS_t z).1, (aS_t z).2, 7, by decide, by decide, rfl⟩
  · split at h
    · rename_i z; cases h; exact ⟨(aS_t z).1, (aS_t z).2, 8, by decide, by decide, rfl⟩
    · cases h
theorem tA_ok : tOK cs sz (tA cs sz) := fun c k h => by
  unfold tA at h
  split at h
  · rename_i z; cases h; exact ⟨(aW_t z).1, (aW_t z).2, 9, by decide, by decide, rfl⟩
  · split at h
    · rename_i z; cases h; exact ⟨(aW_t z).1, (aW_t z).2, 10, by decide, by decide, rfl⟩
    · cases h
theorem lpB_n {t : Cu → Option Int32} {rd : Fs → Fs} {s : Fs} (h : t s.1 = none) : ∀ f, lpB t rd f s = s
  | 0 => rfl
  | f + 1 => by
    show (match t s.1 with | none => s | some k => lpB t rd f (aEm (k, 0) (rd (aCr aAd s)))) = s
    rw [h]
theorem lpB_s {t : Cu → Option Int32} {rd : Fs → Fs} {s : Fs} {k : Int32} (h : t s.1 = some k) (f : Nat) : lpB t rd (f + 1) s = lpB t rd f (aEm (k, 0) (rd (aCr aAd s))) := by
  show (match t s.1 with | none => s | some k => lpB t rd f (aEm (k, 0) (rd (aCr aAd s)))) = _
  rw [h]
theorem t_flt {t : Cu → Option Int32} (ht : tOK cs sz t) {c : Cu} (h : ¬ c.2 = 0) : t c = none := by
  cases e : t c with
  | none => rfl
  | some k => exact absurd (ht c k e).1 h
/-- one join more -/
theorem Gr_j (hs : sz ≤ 1000) {t : Cu → Option Int32} (ht : tOK cs sz t) {rd : Fs → Fs} (hg : ∀ s, Gr s (rd s)) {s : Fs} {k : Int32} (h : t s.1 = some k) : Gr s (aEm (k, 0) (rd (aCr aAd s))) ∧ s.1.1 + 1 ≤ (aEm (k, 0) (rd (aCr aAd s))).1.1 ∧ (rd (aCr aAd s)).2.2 + 1 + s.1.1 ≤ s.2.2 + (rd (aCr aAd s)).1.1 := by
  obtain ⟨h1, h2, -⟩ := ht _ _ h
  have e1 : (aCr aAd s).1.1 = s.1.1 + 1 := by unfold aCr aAd; rw [if_pos h1]
  have e2 : (aCr aAd s).2 = s.2 := rfl
  have e3 : (aCr aAd s).1.2 = s.1.2 := aAd_0
  obtain ⟨x1, x2, x3, x4, x5, x6, x7⟩ := hg (aCr aAd s)
  have c1 := tok_lt hs h2
  rw [e1] at x1 x3 x5
  rw [e2] at x2 x3 x4
  refine ⟨⟨?_, ?_, ?_, fun j hj => ?_, fun _ => x5 c1, fun z => absurd h1 z, fun z => x7 (by rw [e3]; exact z)⟩, x1, by omega⟩
  · show s.1.1 ≤ (rd (aCr aAd s)).1.1; omega
  · show s.2.2 ≤ (rd (aCr aAd s)).2.2 + 1; omega
  · show (rd (aCr aAd s)).2.2 + 1 + s.1.1 ≤ s.2.2 + (rd (aCr aAd s)).1.1; omega
  · show updC (rd (aCr aAd s)).2.1 (rd (aCr aAd s)).2.2 (k, 0) j = s.2.1 j
    rw [updC_n (by omega)]; exact x4 j hj
theorem Gr_lp (hs : sz ≤ 1000) {t : Cu → Option Int32} (ht : tOK cs sz t) {rd : Fs → Fs} (hg : ∀ s, Gr s (rd s)) : ∀ f s, Gr s (lpB t rd f s)
  | 0, s => Gr.refl s
  | f + 1, s => by
    cases h : t s.1 with
    | none => rw [lpB_n h]; exact Gr.refl s
    | some k => rw [lpB_s h]; exact (Gr_j hs ht hg h).1.trans (Gr_lp hs ht hg f _)
theorem Gr_pro (hs : sz ≤ 1000) {prt : Fs → Fs} (hg : ∀ s, Gr s (prt s)) (s : Fs) : Gr s (aPro cs sz prt s) := (hg s).trans (Gr_lp hs tP_ok hg _ _)
theorem Gr_sum (hs : sz ≤ 1000) {prt : Fs → Fs} (hg : ∀ s, Gr s (prt s)) (s : Fs) : Gr s (aSum cs sz prt s) := (Gr_pro hs hg s).trans (Gr_lp hs tS_ok (Gr_pro hs hg) _ _)
theorem Gr_tst (hs : sz ≤ 1000) {prt : Fs → Fs} (hg : ∀ s, Gr s (prt s)) (s : Fs) : Gr s (aTst cs sz prt s) := (Gr_sum hs hg s).trans (Gr_lp hs tT_ok (Gr_sum hs hg) _ _)
theorem Gr_all (hs : sz ≤ 1000) {prt : Fs → Fs} (hg : ∀ s, Gr s (prt s)) (s : Fs) : Gr s (aAll cs sz prt s) := (Gr_tst hs hg s).trans (Gr_lp hs tA_ok (Gr_tst hs hg) _ _)
theorem aFc_t {fb : Nat → Bool} {c : Cu} {k : Nat} (h : aFc cs sz fb c = some k) : c.2 = 0 ∧ ¬ tK cs sz (sP cs sz c.1) = 0 ∧ fb k = true ∧ aW cs sz (32 + k) c = true ∧ k < 5 := by
  unfold aFc at h
  cases hw : aWH cs sz 32 5 c with
  | none => rw [hw] at h; cases h
  | some j =>
    rw [hw] at h
    dsimp only at h
    split at h
    · rename_i z
      cases h
      unfold aWH at hw
      split at hw
      · rename_i y
        obtain ⟨y1, y2, y3, y4⟩ := y
        have hw := Option.some.inj hw
        exact ⟨y1, by rw [y2]; decide, z, decide_eq_true ⟨y1, y2, show wIx (aTw cs sz c) = 32 + k by omega⟩, by omega⟩
      · cases hw
    · cases h
theorem aBg_t {fb : Nat → Bool} {c : Cu} (h : aBg cs sz fb c = true) : c.2 = 0 ∧ ¬ tK cs sz (sP cs sz c.1) = 0 := by
  unfold aBg at h
  simp only [Bool.or_eq_true] at h
  rcases h with h | h | h | h
  · exact aS_t h
  · exact aW_t h
  · obtain ⟨k, hk⟩ := Option.isSome_iff_exists.mp h
    exact ⟨(aFc_t hk).1, (aFc_t hk).2.1⟩
  · exact aN_t h
theorem aFl_n {w : Nat} {c : Cu} (h : ¬ c.2 = 0) : aFl cs sz w c = c := by unfold aFl; rw [if_neg h]
theorem Gr_em1 (hs : sz ≤ 1000) {s : Fs} (h0 : s.1.2 = 0) (ht : ¬ tK cs sz (sP cs sz s.1.1) = 0) (k : Int32 × Int32) : Gr s (aCr aAd (aEm k s)) := by
  have e1 : (aAd s.1).1 = s.1.1 + 1 := by unfold aAd; rw [if_pos h0]
  refine ⟨?_, Nat.le_succ _, ?_, fun j hj => updC_n (by omega), fun _ => ?_, fun z => absurd h0 z, fun z => aAd_b z⟩
  · show s.1.1 ≤ (aAd s.1).1; omega
  · show s.2.2 + 1 + s.1.1 ≤ s.2.2 + (aAd s.1).1; omega
  · show (aAd s.1).1 ≤ 1000; rw [e1]; exact tok_lt hs ht
theorem Gr_pt (hs : sz ≤ 1000) (fb : Nat → Bool) : ∀ r s, Gr s (aPt cs sz fb r s)
  | 0, s => by
    unfold aPt
    split
    · exact Cg_cr (Cg_fl hs (by decide) s.1)
    · exact Cg_cr (Cg_fl hs (by decide) s.1)
  | r + 1, s => by
    unfold aPt
    split
    · rename_i z
      obtain ⟨z1, z2⟩ := aBg_t z
      have hA : Gr s (aCr aAd s) := Cg_cr (Cg_ad hs (fun _ => z2))
      have e1 : (aCr aAd s).1.1 = s.1.1 + 1 := by unfold aCr aAd; rw [if_pos z1]
      split
      · exact (hA.trans (Gr_all hs (Gr_pt hs fb r) _)).trans (Cg_cr (Cg_ns hs 41 _))
      · split
        · obtain ⟨x1, x2, x3, x4, x5, x6, x7⟩ := Gr_pt hs fb r (aCr aAd s)
          have e2 : (aCr aAd s).2 = s.2 := rfl
          have c1 := tok_lt hs z2
          rw [e1] at x1 x3 x5
          rw [e2] at x2 x3 x4
          refine ⟨?_, ?_, ?_, fun j hj => ?_, fun _ => x5 c1, fun y => absurd z1 y, fun y => x7 (aAd_b y)⟩
          · show s.1.1 ≤ (aPt cs sz fb r (aCr aAd s)).1.1; omega
          · show s.2.2 ≤ (aPt cs sz fb r (aCr aAd s)).2.2 + 1; omega
          · show (aPt cs sz fb r (aCr aAd s)).2.2 + 1 + s.1.1 ≤ s.2.2 + (aPt cs sz fb r (aCr aAd s)).1.1; omega
          · show updC (aPt cs sz fb r (aCr aAd s)).2.1 (aPt cs sz fb r (aCr aAd s)).2.2 (3, 0) j = s.2.1 j
            rw [updC_n (by omega)]; exact x4 j hj
        · split
          · exact Gr_em1 hs z1 z2 _
          · exact Gr_em1 hs z1 z2 _
    · exact Cg_cr (Cg_fl hs (by decide) s.1)
/-! How high the pile is. -/
theorem hgt_c {c c' : Nat → Int32 × Int32} : ∀ j, (∀ i, i < j → c' i = c i) → hgt c' j = hgt c j
  | 0, _ => rfl
  | j + 1, h => by
    unfold hgt
    rw [h j (by omega), hgt_c j (fun i hi => h i (by omega))]
theorem okC_c {fa : Nat → Prop} {m : Nat} {c c' : Nat → Int32 × Int32} {j : Nat} (h : ∀ i, i ≤ j → c' i = c i) (k : okC fa m c j) : okC fa m c' j := by
  unfold okC
  rw [h j (Nat.le_refl j), hgt_c j (fun i hi => h i (by omega))]
  exact k
theorem okC_m {fa : Nat → Prop} {m m' : Nat} {c : Nat → Int32 × Int32} {j : Nat} (h : m ≤ m') (k : okC fa m c j) : okC fa m' c j := by
  rcases k with ⟨a, b, e⟩ | ⟨a, b, e⟩ | k | k
  · exact Or.inl ⟨a, b, by omega⟩
  · exact Or.inr (Or.inl ⟨a, b, by omega⟩)
  · exact Or.inr (Or.inr (Or.inl k))
  · exact Or.inr (Or.inr (Or.inr k))
def Hg (fa : Nat → Prop) (m : Nat) (s s' : Fs) : Prop := s'.1.2 = 0 → hgt s'.2.1 s'.2.2 = hgt s.2.1 s.2.2 + 1 ∧ (∀ j, s.2.2 ≤ j → j < s'.2.2 → okC fa (hgt s.2.1 s.2.2 + m) s'.2.1 j) ∧ ∀ j, s.2.2 ≤ j → j ≤ s'.2.2 → hgt s'.2.1 j ≤ hgt s.2.1 s.2.2 + m
theorem Hg.m {fa : Nat → Prop} {m m' : Nat} {s s' : Fs} (h : m ≤ m') (k : Hg fa m s s') : Hg fa m' s s' := fun z => ⟨(k z).1, fun j h1 h2 => okC_m (by omega) ((k z).2.1 j h1 h2), fun j h1 h2 => Nat.le_trans ((k z).2.2 j h1 h2) (by omega)⟩
theorem hgt_em {s : Fs} {k : Int32 × Int32} : hgt (aEm k s).2.1 (aEm k s).2.2 = if k.1 = 1 ∨ k.1 = 2 then hgt s.2.1 s.2.2 + 1 else if k.1 = 3 then hgt s.2.1 s.2.2 else hgt s.2.1 s.2.2 - 1 := by
  show hgt (updC s.2.1 s.2.2 k) (s.2.2 + 1) = _
  have e : hgt (updC s.2.1 s.2.2 k) s.2.2 = hgt s.2.1 s.2.2 := hgt_c _ (fun i hi => updC_n (by omega))
  rw [hgt, updC_e, e]
theorem hgt_em0 {s : Fs} {k : Int32 × Int32} {j : Nat} (h : j ≤ s.2.2) : hgt (aEm k s).2.1 j = hgt s.2.1 j := hgt_c j (fun i hi => updC_n (by omega))
theorem Hg_j {fa : Nat → Prop} {m : Nat} (hs : sz ≤ 1000) {t : Cu → Option Int32} (ht : tOK cs sz t) {rd : Fs → Fs} (hg : ∀ s, Gr s (rd s)) (hh : ∀ s, Hg fa m s (rd s)) {s0 s : Fs} {k : Int32} (h : t s.1 = some k) (g0 : Gr s0 s) (x : Hg fa (m + 1) s0 s) : Hg fa (m + 1) s0 (aEm (k, 0) (rd (aCr aAd s))) := by
  intro z
  have z1 : (rd (aCr aAd s)).1.2 = 0 := z
  obtain ⟨h1, h2, a, a4, a10, ea⟩ := ht _ _ h
  obtain ⟨x1, x2, x3⟩ := x h1
  obtain ⟨-, g2, -, g4, -⟩ := hg (aCr aAd s)
  have e2 : (aCr aAd s).2 = s.2 := rfl
  rw [e2] at g2 g4
  obtain ⟨y1, y2, y3⟩ := hh (aCr aAd s) z1
  rw [e2] at y1 y2 y3
  have gl := g0.2.1
  generalize rd (aCr aAd s) = s1 at *
  have n1 : ¬ (k = 1 ∨ k = 2) := by
    rw [ea]
    rintro (y | y)
    · exact nI_ne (b := 1) (by omega) (by decide) (by omega) y
    · exact nI_ne (b := 2) (by omega) (by decide) (by omega) y
  have n3 : ¬ k = 3 := by rw [ea]; exact nI_ne (b := 3) (by omega) (by decide) (by omega)
  have hE : hgt (aEm (k, 0) s1).2.1 (aEm (k, 0) s1).2.2 = hgt s0.2.1 s0.2.2 + 1 := by
    rw [hgt_em, if_neg n1, if_neg n3, y1, x1]; omega
  have old : ∀ j, j ≤ s.2.2 → hgt s1.2.1 j = hgt s.2.1 j := fun j hj => hgt_c j (fun i hi => g4 i (by omega))
  have le1 : (aEm (k, 0) s1).2.2 = s1.2.2 + 1 := rfl
  refine ⟨hE, fun j j1 j2 => ?_, fun j j1 j2 => ?_⟩
  · rw [le1] at j2
    by_cases w1 : j < s1.2.2
    · refine okC_c (c := s1.2.1) (fun i hi => updC_n (by omega)) ?_
      by_cases w2 : j < s.2.2
      · exact okC_c (c := s.2.1) (fun i hi => g4 i (by omega)) (x2 j j1 w2)
      · exact okC_m (by omega) (y2 j (by omega) w1)
    · obtain rfl : j = s1.2.2 := by omega
      refine Or.inr (Or.inr (Or.inr ⟨⟨a, a4, a10, ?_⟩, ?_⟩))
      · show (updC s1.2.1 s1.2.2 (k, 0) s1.2.2).1 = nI a
        rw [updC_e]; exact ea
      · rw [hgt_em0 (Nat.le_refl _), y1, x1]; omega
  · rw [le1] at j2
    by_cases w1 : j ≤ s1.2.2
    · rw [hgt_em0 w1]
      by_cases w2 : j ≤ s.2.2
      · rw [old j w2]; exact x3 j j1 w2
      · exact Nat.le_trans (y3 j (by omega) w1) (by omega)
    · obtain rfl : j = s1.2.2 + 1 := by omega
      rw [le1] at hE
      rw [hE]; omega
theorem Hg_lp {fa : Nat → Prop} {m : Nat} (hs : sz ≤ 1000) {t : Cu → Option Int32} (ht : tOK cs sz t) {rd : Fs → Fs} (hg : ∀ s, Gr s (rd s)) (hh : ∀ s, Hg fa m s (rd s)) (s0 : Fs) : ∀ f s, Gr s0 s → Hg fa (m + 1) s0 s → Hg fa (m + 1) s0 (lpB t rd f s)
  | 0, s, _, x => x
  | f + 1, s, g0, x => by
    cases h : t s.1 with
    | none => rw [lpB_n h]; exact x
    | some k => rw [lpB_s h]; exact Hg_lp hs ht hg hh s0 f _ (g0.trans (Gr_j hs ht hg h).1) (Hg_j hs ht hg hh h g0 x)
theorem Hg_bin {fa : Nat → Prop} {m : Nat} (hs : sz ≤ 1000) {t : Cu → Option Int32} (ht : tOK cs sz t) {rd : Fs → Fs} (hg : ∀ s, Gr s (rd s)) (hh : ∀ s, Hg fa m s (rd s)) (f : Nat) (s : Fs) : Hg fa (m + 1) s (lpB t rd f (rd s)) := Hg_lp hs ht hg hh s f (rd s) (hg s) ((hh s).m (by omega))
theorem Hg_all {fa : Nat → Prop} {m : Nat} (hs : sz ≤ 1000) {prt : Fs → Fs} (hg : ∀ s, Gr s (prt s)) (hh : ∀ s, Hg fa m s (prt s)) (s : Fs) : Hg fa (m + 4) s (aAll cs sz prt s) :=
  Hg_bin hs tA_ok (Gr_tst hs hg) (Hg_bin hs tT_ok (Gr_sum hs hg) (Hg_bin hs tS_ok (Gr_pro hs hg) (Hg_bin hs tP_ok hg hh 1000) 1000) 1) 1000 s
/-- one that always fails, fails in all -/
theorem flt_bin {t : Cu → Option Int32} (ht : tOK cs sz t) {rd : Fs → Fs} (hf : ∀ s, ¬ (rd s).1.2 = 0) (f : Nat) (s : Fs) : ¬ (lpB t rd f (rd s)).1.2 = 0 := by
  rw [lpB_n (t_flt ht (hf s))]; exact hf s
theorem flt_all {prt : Fs → Fs} (hf : ∀ s, ¬ (prt s).1.2 = 0) (s : Fs) : ¬ (aAll cs sz prt s).1.2 = 0 :=
  flt_bin tA_ok (flt_bin tT_ok (flt_bin tS_ok (flt_bin tP_ok hf 1000) 1000) 1) 1000 s
theorem flt_pt0 (fb : Nat → Bool) (s : Fs) : ¬ (aPt cs sz fb 0 s).1.2 = 0 := by
  unfold aPt
  split
  · exact aFl_ne (by decide)
  · exact aFl_ne (by decide)
theorem aN_lt {c : Cu} (h : aN cs sz c = true) : aVal cs sz c < 10000 := tN_lt (of_decide_eq_true h).2
theorem Hg_push {fa : Nat → Prop} {s : Fs} {k : Int32 × Int32} {m : Nat} (hm : 1 ≤ m) (h : (k.1 = 1 ∧ ∃ a, a ≤ 9999 ∧ k.2 = nI a) ∨ (k.1 = 2 ∧ ∃ a, fa a ∧ k.2 = nI a)) (f : Cu → Cu) : Hg fa m s (aCr f (aEm k s)) := by
  intro _
  have hk : k.1 = 1 ∨ k.1 = 2 := h.elim (fun x => Or.inl x.1) (fun x => Or.inr x.1)
  have hE : hgt (aEm k s).2.1 (aEm k s).2.2 = hgt s.2.1 s.2.2 + 1 := by rw [hgt_em, if_pos hk]
  have le1 : (aEm k s).2.2 = s.2.2 + 1 := rfl
  refine ⟨hE, fun j j1 j2 => ?_, fun j j1 j2 => ?_⟩
  · have j2 : j < s.2.2 + 1 := j2
    obtain rfl : j = s.2.2 := by omega
    show okC fa _ (aEm k s).2.1 s.2.2
    unfold okC
    rw [hgt_em0 (Nat.le_refl _), show (aEm k s).2.1 s.2.2 = k from updC_e]
    rcases h with ⟨h1, h2⟩ | ⟨h1, h2⟩
    · exact Or.inl ⟨h1, h2, by omega⟩
    · exact Or.inr (Or.inl ⟨h1, h2, by omega⟩)
  · have j2 : j ≤ s.2.2 + 1 := j2
    show hgt (aEm k s).2.1 j ≤ _
    by_cases w : j ≤ s.2.2
    · obtain rfl : j = s.2.2 := by omega
      rw [hgt_em0 w]; omega
    · obtain rfl : j = s.2.2 + 1 := by omega
      rw [le1] at hE
      rw [hE]; omega
theorem Hg_pt (hs : sz ≤ 1000) {fb : Nat → Bool} {fa : Nat → Prop} (hf : ∀ k, k < 5 → fb k = true → fa k) : ∀ r s, Hg fa (4 * r - 3) s (aPt cs sz fb r s)
  | 0, s => fun z => absurd z (flt_pt0 fb s)
  | r + 1, s => by
    have ih := Hg_pt hs hf r
    unfold aPt
    split
    · rename_i z
      split
      · intro y
        have y1 : (aAll cs sz (aPt cs sz fb r) (aCr aAd s)).1.2 = 0 := (Cg_ns (cs := cs) hs 41 _).f0 y
        cases r with
        | zero => exact absurd y1 (flt_all (flt_pt0 fb) _)
        | succ r => exact ((Hg_all hs (Gr_pt hs fb (r + 1)) ih (aCr aAd s)).m (by omega)) y1
      · split
        · intro y
          have y1 : (aPt cs sz fb r (aCr aAd s)).1.2 = 0 := y
          obtain ⟨-, g2, -, g4, -⟩ := Gr_pt (cs := cs) hs fb r (aCr aAd s)
          obtain ⟨x1, x2, x3⟩ := ih (aCr aAd s) y1
          have e2 : (aCr aAd s).2 = s.2 := rfl
          rw [e2] at x1 x2 x3 g2 g4
          generalize aPt cs sz fb r (aCr aAd s) = s1 at *
          have hE : hgt (aEm (3, 0) s1).2.1 (aEm (3, 0) s1).2.2 = hgt s.2.1 s.2.2 + 1 := by
            rw [hgt_em, if_neg (by decide), if_pos rfl, x1]
          have le1 : (aEm (3, 0) s1).2.2 = s1.2.2 + 1 := rfl
          refine ⟨hE, fun j j1 j2 => ?_, fun j j1 j2 => ?_⟩
          · rw [le1] at j2
            by_cases w1 : j < s1.2.2
            · exact okC_c (c := s1.2.1) (fun i hi => updC_n (by omega)) (okC_m (by omega) (x2 j j1 w1))
            · obtain rfl : j = s1.2.2 := by omega
              refine Or.inr (Or.inr (Or.inl ⟨?_, ?_⟩))
              · show (updC s1.2.1 s1.2.2 (3, 0) s1.2.2).1 = 3
                rw [updC_e]
              · rw [hgt_em0 (Nat.le_refl _), x1]; omega
          · rw [le1] at j2
            by_cases w1 : j ≤ s1.2.2
            · rw [hgt_em0 w1]
              exact Nat.le_trans (x3 j j1 w1) (by omega)
            · obtain rfl : j = s1.2.2 + 1 := by omega
              rw [le1] at hE
              rw [hE]; omega
        · cases ho : aFc cs sz fb s.1 with
          | some k =>
            obtain ⟨-, -, h3, -, h5⟩ := aFc_t ho
            exact Hg_push (by omega) (Or.inr ⟨rfl, k, hf k h5 h3, rfl⟩) aAd
          | none =>
            rename_i n1 n2
            have hn : aN cs sz s.1 = true := by
              unfold aBg at z
              rw [ho] at z
              simp only [Bool.or_eq_true, Option.isSome_none, Bool.false_eq_true, false_or] at z
              rcases z with z | z | z
              · exact absurd z n1
              · exact absurd z n2
              · exact z
            exact Hg_push (by omega) (Or.inl ⟨rfl, _, by have := aN_lt hn; omega, rfl⟩) aAd
    · exact fun y => absurd y (aFl_ne (by decide))
/-- what is read without a fault is a code -/
theorem WFC_all (hs : sz ≤ 1000) {fb : Nat → Bool} {fa : Nat → Prop} (hf : ∀ k, k < 5 → fb k = true → fa k) {s : Fs} (h0 : s.2.2 = 0) (h : (aAll cs sz (aPt cs sz fb 5) s).1.2 = 0) : WFC fa (aAll cs sz (aPt cs sz fb 5) s).2.1 (aAll cs sz (aPt cs sz fb 5) s).2.2 := by
  obtain ⟨x1, x2, x3⟩ := Hg_all hs (Gr_pt hs fb 5) (Hg_pt hs hf 5) s h
  have e : hgt s.2.1 s.2.2 = 0 := by rw [h0]; rfl
  rw [e] at x1 x2 x3
  rw [h0] at x2 x3
  exact ⟨fun j hj => x2 j (Nat.zero_le _) hj, x1, fun j hj => x3 j (Nat.zero_le _) hj⟩
end FML
