/-! What does not read the script is the same for every script. -/
def dm_S0 : dm_Sc := (4294967296, fun _ => 0)
theorem xS_ald {S : dm_Sc} {ls : dm_Lv} {st : List Value} {σ : dm_St} {t : Nat} {x : dm_Mv} (h : dm_ald dm_S0 ls st σ t = some x) : dm_ald S ls st σ t = some x := by
  unfold dm_ald at h ⊢
  split at h
  · exact h
  · split at h
    · rename_i hc
      exact absurd hc.2.2.2 (by decide)
    · rename_i hc
      split at h
      · rename_i hc2
        obtain ⟨rfl, h2, h3⟩ := hc2
        rw [if_neg (fun z => absurd z.1 (by decide)), if_pos ⟨rfl, h2, h3⟩]
        exact h
      · cases h
  · cases h
theorem xS_len {S : dm_Sc} {ls : dm_Lv} {st : List Value} {σ : dm_St} {x : dm_Mv} (h : dm_len dm_S0 ls st σ = some x) : dm_len S ls st σ = some x := by
  unfold dm_len at h ⊢
  split at h
  · exact h
  · split at h
    · rename_i hc
      exact absurd hc.2 (by decide)
    · split at h
      · rename_i hc2
        subst hc2
        exact h
      · split at h
        · rename_i hc3
          subst hc3
          exact h
        · cases h
  · cases h
theorem xS_sx {S : dm_Sc} {i : Instr} {aux : List Int} {ls : dm_Lv} {st : List Value} {σ : dm_St} {x : dm_Mv} (h : dm_sx dm_S0 i aux ls st σ = some x) : dm_sx S i aux ls st σ = some x := by
  cases i
  case newarray a => cases a <;> exact h
  all_goals first | exact h | exact xS_ald h | exact xS_len h
theorem xS_xn {S : dm_Sc} {call call' : Nat → List Value → dm_St → dm_Rs} (hc : ∀ mi as σ x, call mi as σ = some x → call' mi as σ = some x) {ret : Option FieldType} {code : List dm_Op} {o : dm_Op} {k : List dm_Op} {ls : dm_Lv} {st : List Value} {σ : dm_St} {y : (Option Value × dm_St) ⊕ (List dm_Op × dm_Lv × List Value × dm_St)} (h : xn dm_S0 call ret code o k ls st σ = some y) : xn S call' ret code o k ls st σ = some y := by
  have h2 : xn dm_S0 call' ret code o k ls st σ = some y := xm_xn hc h
  obtain ⟨pc, i, len, aux⟩ := o
  have hs : xn_mv k (dm_sx dm_S0 i aux ls st σ) = some y → xn_mv k (dm_sx S i aux ls st σ) = some y := by
    intro h
    cases hq : dm_sx dm_S0 i aux ls st σ with
    | none => rw [hq] at h; cases h
    | some m => rw [xS_sx hq]; rw [hq] at h; exact h
  cases i
  case if_acmp cnd off => cases cnd <;> first | exact h2 | exact hs h2
  all_goals first | exact h2 | exact hs h2
theorem xS_exec {S : dm_Sc} {call call' : Nat → List Value → dm_St → dm_Rs} (hc : ∀ mi as σ x, call mi as σ = some x → call' mi as σ = some x) {ret : Option FieldType} {code : List dm_Op} (n : Nat) : ∀ (k : List dm_Op) (ls : dm_Lv) (st : List Value) (σ : dm_St) (x : Option Value × dm_St), dm_exec dm_S0 call ret code n k ls st σ = some x → dm_exec S call' ret code n k ls st σ = some x := by
  induction n with
  | zero => intro k ls st σ x h; simp [dm_exec] at h
  | succ n ih =>
    intro k ls st σ x h
    cases k with
    | nil => simp [dm_exec] at h
    | cons o k =>
      rw [xn_exec] at h ⊢
      cases hx : xn dm_S0 call ret code o k ls st σ with
      | none => rw [hx] at h; cases h
      | some y =>
        rw [xS_xn hc hx]
        rw [hx] at h
        cases y with
        | inl r =>
          have h' : some r = some x := h
          rw [← h']
          rfl
        | inr q =>
          obtain ⟨k2, ls2, st2, σ2⟩ := q
          have h' : dm_exec dm_S0 call ret code n k2 ls2 st2 σ2 = some x := h
          have h2 := ih k2 ls2 st2 σ2 x h'
          rw [← h2]
          rfl
theorem xS_run {S : dm_Sc} {n : Nat} (d : Nat) : ∀ (mi : Nat) (as : List Value) (σ : dm_St) (x : Option Value × dm_St), dm_run dm_S0 dm_tab d n mi as σ = some x → dm_run S dm_tab d n mi as σ = some x := by
  induction d with
  | zero => intro mi as σ x h; simp [dm_run] at h
  | succ d ih =>
    intro mi as σ x h
    unfold dm_run at h ⊢
    cases ht : dm_tab mi with
    | none => rw [ht] at h; cases h
    | some row =>
      rw [ht] at h
      dsimp only at h ⊢
      split at h
      · rename_i hb
        rw [if_pos hb]
        exact xS_exec (fun mi as σ x h => ih mi as σ x h) n _ _ _ _ _ h
      · cases h
/-! The constructors, run. -/
def dm_0 : dm_St := ([.inl 10], (0, 0), fun _ _ => 0, fun _ _ => 0, fun _ _ => .null)
