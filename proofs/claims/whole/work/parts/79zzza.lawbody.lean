/-! The law's body on the machine, out of its pure run. -/
section LWB
variable {p : Program} {l : Launch} {e : Env} {R : Room} {s : State} {m : MethodId} {args : Array Value} {below : List Frame} {meth : Method} {c : Code} {Q : State → Prop}
variable {S : dm_Sc} {base : Nat} {D : va_G} {ext : Nat → Nat} {c0 s0 sa : Nat}
theorem lw_inv1 {N : Nat} {ls ls' : dm_Lv} {st st' : List Value} {σ σ' : dm_St} {aux : List Int} {k : Nat} {b : Bool} (hk : k = if b = true then 1001 else 1000) (hx : ∃ tl, aux = [1, (k : Int), 4, 0, 0, tl]) (h : dm_inv (lcall S 60 N) aux ls st σ = some (ls', st', σ')) : ∃ as rest r, lz S 58 N b as σ = some (r, σ') ∧ st = as.reverse ++ rest ∧ dm_wait rest = true ∧ ls' = ls ∧ st' = r.toList ++ rest := by
  obtain ⟨tl, rfl⟩ := hx
  unfold dm_inv at h
  dsimp only at h
  split at h
  · rename_i hc
    split at h
    · rename_i r σ1 hr
      obtain ⟨rfl, h2⟩ := Prod.mk.inj (Option.some.inj h)
      obtain ⟨rfl, rfl⟩ := Prod.mk.inj h2
      refine ⟨(st.take 4).reverse, st.drop 4, r, ?_, by rw [List.reverse_reverse, List.take_append_drop], hc.2.1, rfl, rfl⟩
      cases b
      · subst hk
        exact hr
      · subst hk
        exact hr
    · cases h
  · cases h
end LWB
