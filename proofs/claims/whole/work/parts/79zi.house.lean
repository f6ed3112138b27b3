/-! Houses: how they are read. -/
/-- a new name: full, whether it was told -/
def aN2 (cs : Nat → Nat) (sz : Nat) (fd : List Nat → Bool) (c : Cu) : Cu := if aM cs sz c = true then (if fd (aTw cs sz c) = true then aFl cs sz 3 c else c) else aFl cs sz 1 c
def aFu (cs : Nat → Nat) (sz w : Nat) (b : Bool) (c : Cu) : Cu := if b = true then aFl cs sz w c else c
def aNm (cs : Nat → Nat) (sz : Nat) (full : Bool) (fd : List Nat → Bool) (c : Cu) : Cu := aAd (aN2 cs sz fd (aAd (aFu cs sz 5 full c)))
/-- a fact: where it ends, its value -/
def aFa (cs : Nat → Nat) (sz j lo hi : Nat) (c : Cu) : Cu := aNN cs sz lo hi (aNW cs sz j c)
def aFv (cs : Nat → Nat) (sz j : Nat) (c : Cu) : Nat := aVal cs sz (aNW cs sz j c)
def aKd (cs : Nat → Nat) (sz : Nat) (c : Cu) : Cu := match aWH cs sz 25 4 c with
  | some _ => aAd c
  | none => aAd (aFl cs sz 1 c)
def aKv (cs : Nat → Nat) (sz : Nat) (c : Cu) : Nat := match aWH cs sz 25 4 c with
  | some k => k
  | none => 0
def occ (H : Nat → Int32) (v : Int32) : Nat → Bool
  | 0 => false
  | t + 1 => occ H v t || decide (H (26 + 5 * t + 4) = v)
def aHm (cs : Nat → Nat) (sz : Nat) (lk : Lk) (oc : Int32 → Bool) (c : Cu) : Cu := if aW cs sz 8 c = true then aAd (aFu cs sz 3 (oc (oI (lk (aTw cs sz (aAd c))))) (aSee cs sz (lk (aTw cs sz (aAd c))) (aAd c))) else c
def aHo (cs : Nat → Nat) (sz : Nat) (lk : Lk) (c : Cu) : Int32 := if aW cs sz 8 c = true then oI (lk (aTw cs sz (aAd c))) else -1
def fdA (wd : Nat → List Nat) (nm : Nat) (w : List Nat) : Bool := (fdL (fun k => e37 (wd k)) (e37 w) 0 nm).isSome
def lkA (fr : Nat) (wd : Nat → List Nat) (kd : Nat → Nat) (nm : Nat) : Lk := lkM fr (fun k => e37 (wd k)) kd nm
def upW (f : Nat → List Nat) (i : Nat) (v : List Nat) : Nat → List Nat := fun j => if j = i then v else f j
def upN (f : Nat → Nat) (i v : Nat) : Nat → Nat := fun j => if j = i then v else f j
theorem upW_e {f : Nat → List Nat} {i : Nat} {v : List Nat} : upW f i v i = v := by unfold upW; rw [if_pos rfl]
theorem upW_n {f : Nat → List Nat} {i j : Nat} {v : List Nat} (h : ¬ j = i) : upW f i v j = f j := by unfold upW; rw [if_neg h]
theorem upN_e {f : Nat → Nat} {i v : Nat} : upN f i v i = v := by unfold upN; rw [if_pos rfl]
theorem upN_n {f : Nat → Nat} {i j v : Nat} (h : ¬ j = i) : upN f i v j = f j := by unfold upN; rw [if_neg h]
/-- the names: which words, of what; which of them is room r, tenant t, errand e -/
def PNm (wd : Nat → List Nat) (kd : Nat → Nat) (nm : Nat) (ri ti ei : Nat → Nat) (nr n ne : Nat) : Prop :=
  nm = nr + n + ne ∧ (∀ k, k < nm → okW (wd k)) ∧ (∀ k, k < nm → (∃ r, r < nr ∧ k = ri r) ∨ (∃ t, t < n ∧ k = ti t) ∨ (∃ e, e < ne ∧ k = ei e)) ∧
  (∀ r, r < nr → ri r < nm ∧ kd (ri r) = r) ∧ (∀ t, t < n → ti t < nm ∧ kd (ti t) = 20 + t) ∧ (∀ e, e < ne → ei e < nm ∧ kd (ei e) = 40) ∧ ∀ k j, k < nm → j < nm → wd k = wd j → k = j
/-- how the class has them, in the house at h; how the reference has -/
def NMc (L : Nat → Nat → Int64) (h : Nat) (wd : Nat → List Nat) (ri ti ei : Nat → Nat) (nr n ne : Nat) : Prop := (∀ r, r < nr → L (h + 2) r = e32 (wd (ri r))) ∧ (∀ t, t < n → L (h + 8) t = e32 (wd (ti t))) ∧ ∀ e, e < ne → L (h + 18) e = e32 (wd (ei e))
def NMr (I : Nat → Nat → Int32) (L : Nat → Nat → Int64) (wd : Nat → List Nat) (kd : Nat → Nat) (nm : Nat) : Prop := I 264 19 = nI nm ∧ ∀ k, k < nm → L 274 k = e37 (wd k) ∧ I 276 k = nI (kd k)
section NAM
variable {wd : Nat → List Nat} {kd ri ti ei : Nat → Nat} {nm nr n ne h : Nat} {L : Nat → Nat → Int64}
theorem fdL_e {f g : Nat → Int64} {v : Int64} : ∀ m j, (∀ k, j ≤ k → k < j + m → f k = g k) → fdL f v j m = fdL g v j m
  | 0, _, _ => rfl
  | m + 1, j, h => by rw [fdL_s, fdL_s, h j (by omega) (by omega), fdL_e m (j + 1) (fun k h1 h2 => h k (by omega) (by omega))]
theorem PNm.le40 (p : PNm wd kd nm ri ti ei nr n ne) (h6 : nr ≤ 6) (hn : n ≤ 6) {k : Nat} (hk : k < nm) : kd k ≤ 40 := by
  rcases p.2.2.1 k hk with ⟨r, h1, rfl⟩ | ⟨t, h1, rfl⟩ | ⟨e, h1, rfl⟩
  · have := (p.2.2.2.1 r h1).2; omega
  · have := (p.2.2.2.2.1 t h1).2; omega
  · have := (p.2.2.2.2.2.1 e h1).2; omega
theorem PNm.lk (p : PNm wd kd nm ri ti ei nr n ne) (h6 : nr ≤ 6) (hn : n ≤ 6) (q : NMc L h wd ri ti ei nr n ne) {w : List Nat} (hw : okW w) : lkL (L (h + 2)) nr w = lkA 0 wd kd nm w ∧ lkL (L (h + 8)) n w = lkA 20 wd kd nm w := by
  obtain ⟨p0, p1, p2, p3, p4, p5, p6⟩ := p
  obtain ⟨q1, q2, q3⟩ := q
  refine ⟨(nm_same h6 (fun k hk => ⟨p1 k hk, rfl⟩) (fun t ht => ⟨ri t, (p3 t ht).1, by rw [(p3 t ht).2, Nat.zero_add]⟩) (fun k hk h1 h2 => ?_) p6 hw).symm, (nm_same hn (fun k hk => ⟨p1 k hk, rfl⟩) (fun t ht => ⟨ti t, p4 t ht⟩) (fun k hk h1 h2 => ?_) p6 hw).symm⟩
  · rcases p2 k hk with ⟨r, x, rfl⟩ | ⟨t, x, rfl⟩ | ⟨e, x, rfl⟩
    · rw [(p3 r x).2, Nat.sub_zero]; exact ⟨x, q1 r x⟩
    · have := (p4 t x).2; omega
    · have := (p5 e x).2; omega
  · rcases p2 k hk with ⟨r, x, rfl⟩ | ⟨t, x, rfl⟩ | ⟨e, x, rfl⟩
    · have := (p3 r x).2; omega
    · rw [(p4 t x).2, Nat.add_sub_cancel_left]; exact ⟨x, q2 t x⟩
    · have := (p5 e x).2; omega
theorem fdL_in {f : Nat → Int64} {v : Int64} {m i : Nat} (hi : i < m) (h : f i = v) : ¬ fdL f v 0 m = none := fun z => fdL_none m 0 z i (Nat.zero_le _) (by omega) h
/-- told: by the class's tables -/
theorem PNm.fd (p : PNm wd kd nm ri ti ei nr n ne) (q : NMc L h wd ri ti ei nr n ne) {w : List Nat} (hw : okW w) : fdA wd nm w = false ↔ fdL (L (h + 2)) (e32 w) 0 nr = none ∧ fdL (L (h + 8)) (e32 w) 0 n = none ∧ fdL (L (h + 18)) (e32 w) 0 ne = none := by
  obtain ⟨p0, p1, p2, p3, p4, p5, p6⟩ := p
  obtain ⟨q1, q2, q3⟩ := q
  have hit : ∀ k, k < nm → wd k = w → fdA wd nm w = true := fun k hk e => by
    unfold fdA
    rw [Option.isSome_iff_ne_none]
    exact fdL_in (f := fun k => e37 (wd k)) hk (by rw [e])
  constructor
  · intro hf
    refine ⟨?_, ?_, ?_⟩
    · cases e : fdL (L (h + 2)) (e32 w) 0 nr with
      | none => rfl
      | some r =>
        obtain ⟨-, h1, h2⟩ := fdL_some nr 0 r e
        have h1 : r < nr := by omega
        rw [q1 r h1] at h2
        rw [hit _ (p3 r h1).1 (e32_inj (p1 _ (p3 r h1).1) hw h2)] at hf
        cases hf
    · cases e : fdL (L (h + 8)) (e32 w) 0 n with
      | none => rfl
      | some r =>
        obtain ⟨-, h1, h2⟩ := fdL_some n 0 r e
        have h1 : r < n := by omega
        rw [q2 r h1] at h2
        rw [hit _ (p4 r h1).1 (e32_inj (p1 _ (p4 r h1).1) hw h2)] at hf
        cases hf
    · cases e : fdL (L (h + 18)) (e32 w) 0 ne with
      | none => rfl
      | some r =>
        obtain ⟨-, h1, h2⟩ := fdL_some ne 0 r e
        have h1 : r < ne := by omega
        rw [q3 r h1] at h2
        rw [hit _ (p5 r h1).1 (e32_inj (p1 _ (p5 r h1).1) hw h2)] at hf
        cases hf
  · rintro ⟨z1, z2, z3⟩
    cases hf : fdA wd nm w with
    | false => rfl
    | true =>
      unfold fdA at hf
      obtain ⟨k, hk⟩ := Option.isSome_iff_exists.mp hf
      obtain ⟨-, k1, k2⟩ := fdL_some nm 0 k hk
      have k1 : k < nm := by omega
      have k3 : wd k = w := e37_inj (p1 k k1) hw k2
      rcases p2 k k1 with ⟨r, x, rfl⟩ | ⟨t, x, rfl⟩ | ⟨e, x, rfl⟩
      · exact absurd z1 (fdL_in x (by rw [q1 r x, k3]))
      · exact absurd z2 (fdL_in x (by rw [q2 t x, k3]))
      · exact absurd z3 (fdL_in x (by rw [q3 e x, k3]))
theorem fdA_no {w : List Nat} (h : fdA wd nm w = false) {k : Nat} (hk : k < nm) : ¬ wd k = w := fun e => by
  unfold fdA at h
  rw [Option.isSome_eq_false_iff, Option.isNone_iff_eq_none] at h
  exact fdL_in (f := fun k => e37 (wd k)) hk (by rw [e]) h
theorem NMr.lk {I : Nat → Nat → Int32} (q : NMr I L wd kd nm) (fr : Nat) (w : List Nat) : kdF fr (kdO (L 274) kd (e37 w) nm) = lkA fr wd kd nm w := by
  unfold lkA lkM kdO
  rw [fdL_e (g := fun k => e37 (wd k)) nm 0 (fun k _ h2 => (q.2 k (by omega)).1)]
theorem NMr.fd {I : Nat → Nat → Int32} (q : NMr I L wd kd nm) (w : List Nat) : (kdO (L 274) kd (e37 w) nm).isSome = fdA wd nm w := by
  unfold fdA kdO
  rw [fdL_e (g := fun k => e37 (wd k)) nm 0 (fun k _ h2 => (q.2 k (by omega)).1)]
  cases fdL (fun k => e37 (wd k)) (e37 w) 0 nm <;> rfl
/-- a name more: a room, a tenant, an errand -/
theorem PNm.room (p : PNm wd kd nm ri ti ei nr n ne) {w : List Nat} (hw : okW w) (hf : fdA wd nm w = false) : PNm (upW wd nm w) (upN kd nm nr) (nm + 1) (upN ri nr nm) ti ei (nr + 1) n ne := by
  obtain ⟨p0, p1, p2, p3, p4, p5, p6⟩ := p
  refine ⟨by omega, fun k hk => ?_, fun k hk => ?_, fun r hr => ?_, fun t ht => ?_, fun e he => ?_, fun k j hk hj => ?_⟩
  · by_cases z : k = nm
    · rw [z, upW_e]; exact hw
    · rw [upW_n z]; exact p1 k (by omega)
  · by_cases z : k = nm
    · exact Or.inl ⟨nr, by omega, by rw [upN_e]; exact z⟩
    · rcases p2 k (by omega) with ⟨r, x, y⟩ | ⟨t, x, y⟩ | ⟨e, x, y⟩
      · exact Or.inl ⟨r, by omega, by rw [upN_n (by omega)]; exact y⟩
      · exact Or.inr (Or.inl ⟨t, x, y⟩)
      · exact Or.inr (Or.inr ⟨e, x, y⟩)
  · by_cases z : r = nr
    · rw [z, upN_e, upN_e]; exact ⟨by omega, rfl⟩
    · have := p3 r (by omega)
      rw [upN_n z, upN_n (by omega)]; exact ⟨by omega, this.2⟩
  · have := p4 t ht
    rw [upN_n (by omega)]; exact ⟨by omega, this.2⟩
  · have := p5 e he
    rw [upN_n (by omega)]; exact ⟨by omega, this.2⟩
  · by_cases z : k = nm
    · by_cases y : j = nm
      · intro _; omega
      · rw [z, upW_e, upW_n y]; exact fun e => absurd e.symm (fdA_no hf (by omega))
    · by_cases y : j = nm
      · rw [y, upW_e, upW_n z]; exact fun e => absurd e (fdA_no hf (by omega))
      · rw [upW_n z, upW_n y]; exact p6 k j (by omega) (by omega)
theorem PNm.tenant (p : PNm wd kd nm ri ti ei nr n ne) {w : List Nat} (hw : okW w) (hf : fdA wd nm w = false) : PNm (upW wd nm w) (upN kd nm (20 + n)) (nm + 1) ri (upN ti n nm) ei nr (n + 1) ne := by
  obtain ⟨p0, p1, p2, p3, p4, p5, p6⟩ := p
  refine ⟨by omega, fun k hk => ?_, fun k hk => ?_, fun r hr => ?_, fun t ht => ?_, fun e he => ?_, fun k j hk hj => ?_⟩
  · by_cases z : k = nm
    · rw [z, upW_e]; exact hw
    · rw [upW_n z]; exact p1 k (by omega)
  · by_cases z : k = nm
    · exact Or.inr (Or.inl ⟨n, by omega, by rw [upN_e]; exact z⟩)
    · rcases p2 k (by omega) with ⟨r, x, y⟩ | ⟨t, x, y⟩ | ⟨e, x, y⟩
      · exact Or.inl ⟨r, x, y⟩
      · exact Or.inr (Or.inl ⟨t, by omega, by rw [upN_n (by omega)]; exact y⟩)
      · exact Or.inr (Or.inr ⟨e, x, y⟩)
  · have := p3 r hr
    rw [upN_n (by omega)]; exact ⟨by omega, this.2⟩
  · by_cases z : t = n
    · rw [z, upN_e, upN_e]; exact ⟨by omega, rfl⟩
    · have := p4 t (by omega)
      rw [upN_n z, upN_n (by omega)]; exact ⟨by omega, this.2⟩
  · have := p5 e he
    rw [upN_n (by omega)]; exact ⟨by omega, this.2⟩
  · by_cases z : k = nm
    · by_cases y : j = nm
      · intro _; omega
      · rw [z, upW_e, upW_n y]; exact fun e => absurd e.symm (fdA_no hf (by omega))
    · by_cases y : j = nm
      · rw [y, upW_e, upW_n z]; exact fun e => absurd e (fdA_no hf (by omega))
      · rw [upW_n z, upW_n y]; exact p6 k j (by omega) (by omega)
theorem PNm.errand (p : PNm wd kd nm ri ti ei nr n ne) {w : List Nat} (hw : okW w) (hf : fdA wd nm w = false) : PNm (upW wd nm w) (upN kd nm 40) (nm + 1) ri ti (upN ei ne nm) nr n (ne + 1) := by
  obtain ⟨p0, p1, p2, p3, p4, p5, p6⟩ := p
  refine ⟨by omega, fun k hk => ?_, fun k hk => ?_, fun r hr => ?_, fun t ht => ?_, fun e he => ?_, fun k j hk hj => ?_⟩
  · by_cases z : k = nm
    · rw [z, upW_e]; exact hw
    · rw [upW_n z]; exact p1 k (by omega)
  · by_cases z : k = nm
    · exact Or.inr (Or.inr ⟨ne, by omega, by rw [upN_e]; exact z⟩)
    · rcases p2 k (by omega) with ⟨r, x, y⟩ | ⟨t, x, y⟩ | ⟨e, x, y⟩
      · exact Or.inl ⟨r, x, y⟩
      · exact Or.inr (Or.inl ⟨t, x, y⟩)
      · exact Or.inr (Or.inr ⟨e, by omega, by rw [upN_n (by omega)]; exact y⟩)
  · have := p3 r hr
    rw [upN_n (by omega)]; exact ⟨by omega, this.2⟩
  · have := p4 t ht
    rw [upN_n (by omega)]; exact ⟨by omega, this.2⟩
  · by_cases z : e = ne
    · rw [z, upN_e, upN_e]; exact ⟨by omega, rfl⟩
    · have := p5 e (by omega)
      rw [upN_n z, upN_n (by omega)]; exact ⟨by omega, this.2⟩
  · by_cases z : k = nm
    · by_cases y : j = nm
      · intro _; omega
      · rw [z, upW_e, upW_n y]; exact fun e => absurd e.symm (fdA_no hf (by omega))
    · by_cases y : j = nm
      · rw [y, upW_e, upW_n z]; exact fun e => absurd e (fdA_no hf (by omega))
      · rw [upW_n z, upW_n y]; exact p6 k j (by omega) (by omega)
end NAM
section CUR
variable {cs : Nat → Nat} {sz : Nat}
theorem Cg_fu (hs : sz ≤ 1000) {w : Nat} (hw : w ≤ 5) (b : Bool) (c : Cu) : Cg c (aFu cs sz w b c) := by
  unfold aFu
  split
  · exact Cg_fl hs hw c
  · exact Cg.refl c
theorem Cg_fa (hs : sz ≤ 1000) (j lo hi : Nat) (c : Cu) : Cg c (aFa cs sz j lo hi c) := (Cg_nw hs j c).trans (Cg_nn hs lo hi _)
theorem aFu_0 {w : Nat} {b : Bool} {c : Cu} (hw : 1 ≤ w) (h : (aFu cs sz w b c).2 = 0) : b = false ∧ c.2 = 0 ∧ aFu cs sz w b c = c := by
  unfold aFu at h ⊢
  split at h
  · exact absurd h (aFl_ne hw)
  · rename_i z
    rw [Bool.not_eq_true] at z
    rw [if_neg (by rw [z]; decide)]
    exact ⟨z, h, rfl⟩
theorem aN2_0 {fd : List Nat → Bool} {c : Cu} (h : (aN2 cs sz fd c).2 = 0) : aM cs sz c = true ∧ fd (aTw cs sz c) = false ∧ aN2 cs sz fd c = c ∧ c.2 = 0 := by
  unfold aN2 at h ⊢
  split at h
  · rename_i z
    split at h
    · exact absurd h (aFl_ne (by decide))
    · rename_i y
      rw [Bool.not_eq_true] at y
      rw [if_pos z, if_neg (by rw [y]; decide)]
      exact ⟨z, y, rfl, h⟩
  · exact absurd h (aFl_ne (by decide))
theorem aN2_tok {fd : List Nat → Bool} {c : Cu} (h : (aN2 cs sz fd c).2 = 0) : ¬ tK cs sz (sP cs sz (aN2 cs sz fd c).1) = 0 := by
  obtain ⟨h1, -, h3, -⟩ := aN2_0 h
  rw [h3]
  exact (aM_t h1).2
theorem Cg_n2 (hs : sz ≤ 1000) (fd : List Nat → Bool) (c : Cu) : Cg c (aN2 cs sz fd c) := by
  unfold aN2
  split
  · split
    · exact Cg_fl hs (by decide) c
    · exact Cg.refl c
  · exact Cg_fl hs (by decide) c
theorem Cg_nm (hs : sz ≤ 1000) (b : Bool) (fd : List Nat → Bool) {c : Cu} (ht : ¬ tK cs sz (sP cs sz c.1) = 0) : Cg c (aNm cs sz b fd c) := by
  refine ((Cg_fu hs (by decide) b c).trans (Cg_ad (cs := cs) hs (fun h => ?_))).trans ((Cg_n2 hs fd _).trans (Cg_ad hs (fun h => aN2_tok h)))
  rw [(aFu_0 (by decide) h).2.2]
  exact ht
theorem aNm_0 {b : Bool} {fd : List Nat → Bool} {c : Cu} (h : (aNm cs sz b fd c).2 = 0) : b = false ∧ c.2 = 0 ∧ okW (aTw cs sz (aAd c)) ∧ fd (aTw cs sz (aAd c)) = false := by
  unfold aNm at h
  rw [aAd_0] at h
  obtain ⟨h1, h2, -, h4⟩ := aN2_0 h
  rw [aAd_0] at h4
  obtain ⟨e1, e2, e3⟩ := aFu_0 (by decide) h4
  rw [e3] at h1 h2
  exact ⟨e1, e2, aM_ok h1, h2⟩
theorem aWH_t {fr m k : Nat} {c : Cu} (h : aWH cs sz fr m c = some k) : c.2 = 0 ∧ ¬ tK cs sz (sP cs sz c.1) = 0 ∧ k < m ∧ aW cs sz (fr + k) c = true := by
  unfold aWH at h
  split at h
  · rename_i z
    obtain ⟨z1, z2, z3, z4⟩ := z
    have h := Option.some.inj h
    exact ⟨z1, by rw [z2]; decide, by omega, decide_eq_true ⟨z1, z2, show wIx (aTw cs sz c) = fr + k by omega⟩⟩
  · cases h
theorem Cg_kd (hs : sz ≤ 1000) (c : Cu) : Cg c (aKd cs sz c) := by
  unfold aKd
  cases h : aWH cs sz 25 4 c with
  | some k => exact Cg_ad hs (fun _ => (aWH_t h).2.1)
  | none =>
    refine (Cg_fl hs (by decide) c).trans (Cg_ad (cs := cs) hs (fun z => absurd z (aFl_ne (by decide))))
theorem aKd_0 {c : Cu} (h : (aKd cs sz c).2 = 0) : c.2 = 0 ∧ ∃ k, aWH cs sz 25 4 c = some k ∧ aKv cs sz c = k ∧ k ≤ 3 := by
  unfold aKd at h
  cases e : aWH cs sz 25 4 c with
  | some k => rw [e] at h; rw [aAd_0] at h; exact ⟨h, k, rfl, by unfold aKv; rw [e], by have := (aWH_t e).2.2.1; omega⟩
  | none => rw [e] at h; rw [aAd_0] at h; exact absurd h (aFl_ne (by decide))
theorem Cg_hm (hs : sz ≤ 1000) (lk : Lk) (oc : Int32 → Bool) (c : Cu) : Cg c (aHm cs sz lk oc c) := by
  unfold aHm
  split
  · rename_i z
    refine (Cg_ad hs (fun _ => (aW_t z).2)).trans ((Cg_see hs _ _).trans ((Cg_fu hs (by decide) _ _).trans (Cg_ad (cs := cs) hs (fun h => ?_))))
    obtain ⟨h1, h2, h3⟩ := aFu_0 (by decide) h
    rw [h3, aSee_1]
    exact (aM_t (aSee_0 h2).2.1).2
  · exact Cg.refl c
theorem aHm_0 {lk : Lk} {oc : Int32 → Bool} {c : Cu} (h : (aHm cs sz lk oc c).2 = 0) : c.2 = 0 ∧ (aW cs sz 8 c = true → okW (aTw cs sz (aAd c)) ∧ ∃ r, lk (aTw cs sz (aAd c)) = some r ∧ aHo cs sz lk c = nI r ∧ oc (nI r) = false) := by
  unfold aHm at h
  by_cases z : aW cs sz 8 c = true
  · rw [if_pos z, aAd_0] at h
    obtain ⟨h1, h2, -⟩ := aFu_0 (by decide) h
    obtain ⟨h3, h4, r, h5⟩ := aSee_0 h2
    rw [aAd_0] at h3
    refine ⟨h3, fun _ => ⟨aM_ok h4, r, h5, ?_, ?_⟩⟩
    · unfold aHo; rw [if_pos z, h5]; rfl
    · rw [h5] at h1; exact h1
  · rw [if_neg z] at h
    exact ⟨h, fun y => absurd y z⟩
theorem aFa_0 {j lo hi : Nat} {c : Cu} (h : (aFa cs sz j lo hi c).2 = 0) : c.2 = 0 ∧ lo ≤ aFv cs sz j c ∧ aFv cs sz j c ≤ hi := by
  unfold aFa at h
  refine ⟨aNW_0 (aNN_0 h), ?_⟩
  unfold aNN at h
  split at h
  · split at h
    · rename_i z; exact z
    · exact absurd h (aFl_ne (by decide))
  · exact absurd h (aFl_ne (by decide))
end CUR
