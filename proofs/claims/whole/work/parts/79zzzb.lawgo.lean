/-! The law's body on the machine. -/
theorem lw_cs {o : dm_Op} (h : lw_ck o = true) : o = (990, .invokestatic 119, 3, [1, 1000, 4, 0, 0, 4204]) ∨ o = (1058, .invokestatic 128, 3, [1, 1001, 4, 0, 0, 5045]) ∨ ∀ kd mi na ci tl, o.2.2.2 = kd :: mi :: na :: ci :: tl → ¬ mi.toNat = 1000 ∧ ¬ mi.toNat = 1001 := by
  unfold lw_ck at h
  split at h
  · rename_i kd mi na ci tl e
    split at h
    · exact Or.inl (of_decide_eq_true h)
    · split at h
      · exact Or.inr (Or.inl (of_decide_eq_true h))
      · refine Or.inr (Or.inr ?_)
        intro kd' mi' na' ci' tl' e'
        rw [e] at e'
        cases e'
        exact ⟨by omega, by omega⟩
  · rename_i hne
    exact Or.inr (Or.inr (fun kd mi na ci tl e => absurd e (hne _ _ _ _ _)))
theorem lw_inv0 {S : dm_Sc} {N : Nat} {ls : dm_Lv} {st : List Value} {σ : dm_St} {aux : List Int} (h : ∀ kd mi na ci tl, aux = kd :: mi :: na :: ci :: tl → ¬ mi.toNat = 1000 ∧ ¬ mi.toNat = 1001) : dm_inv (lcall S 60 N) aux ls st σ = dm_inv (dm_run S dm_tab 60 N) aux ls st σ := by
  unfold dm_inv
  split
  · rename_i kd mi na ci tl
    obtain ⟨h1, h2⟩ := h _ _ _ _ _ rfl
    have e : ∀ as, lcall S 60 N mi.toNat as σ = dm_run S dm_tab 60 N mi.toNat as σ := fun as => by
      unfold lcall
      rw [if_neg h1, if_neg h2]
    simp only [e]
  all_goals rfl
