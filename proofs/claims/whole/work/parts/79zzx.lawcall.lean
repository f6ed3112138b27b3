/-! The law's own two calls, in its frame. -/
theorem lcall_le {S : dm_Sc} {d N : Nat} : ∀ mi as σ r σ', lcall S d N mi as σ = some (r, σ') → dm_le σ σ' := by
  have lzl : ∀ (d : Nat) (b : Bool) as σ r σ', lz S d N b as σ = some (r, σ') → dm_le σ σ' := by
    intro d b as σ r σ' h
    unfold lz at h
    split at h
    · split at h
      · split at h
        · rename_i t σ1 hr
          have l1 := dm_run_le _ _ _ _ _ _ hr
          split at h
          · cases h
            refine dm_le.tr l1 ⟨?_, ?_⟩
            · show σ1.1.length + σ1.2.1.1 ≤ σ1.1.length + (σ1.2.1.1 + 1)
              omega
            · show (σ1.1.map dm_sz).sum + σ1.2.1.2 ≤ (σ1.1.map dm_sz).sum + (σ1.2.1.2 + 6)
              omega
          · split at h
            · rename_i v σ2 he
              have l2 := dm_exec_le (S := S) (fun mi as σ r σ' h => dm_run_le _ _ _ _ _ _ h) _ _ _ _ _ _ _ he
              split at h
              · cases h
                exact dm_le.tr l1 (dm_le.tr l2 ⟨Nat.le_refl _, Nat.le_refl _⟩)
              · cases h
            · cases h
        · cases h
      · cases h
    · cases h
  intro mi as σ r σ' h
  unfold lcall at h
  split at h
  · exact lzl _ _ _ _ _ _ h
  · split at h
    · exact lzl _ _ _ _ _ _ h
    · exact dm_run_le _ _ _ _ _ _ h
/-- a run of the two, as a contract -/
theorem lx_cat {y y2 : MethodName} {cc cc2 : ByteArray} {ix : Nat} {tl : List dm_Op} (ok : lx_OK y cc tl) (ok2 : lx_OK2 y2 cc2 ix y cc) {l : Launch} (hl : l.stackTraces = false) {S : dm_Sc} {base : Nat} {D : va_G} {ext : Nat → Nat} {sa : Nat} (hrows : ∀ mi row, dm_tab mi = some row → dm_RowOK mi row) {d N : Nat} (hd : 4 ≤ d) {b : Bool} (hb : lzk b = tl) {as : List Value} {σ σ' : dm_St} {r : Option Value} (h : lz S d N b as σ = some (r, σ')) :
    as.length = 4 ∧ vx_Met l y2 (lx_ws2 y2 cc2) (dm_rm (d + 2) (dm_cost σ' - dm_cost σ) (dm_slo σ' - dm_slo σ)) (lx_Pc S base D ext sa σ as) (dm_Qc base D ext r σ') (fun _ _ _ => False) (dm_cost σ' - dm_cost σ) (dm_slo σ' - dm_slo σ) (dm_A base) := by
  unfold lz at h
  split at h
  · rename_i x v w ou
    refine ⟨rfl, ?_⟩
    split at h
    · rename_i hsx
      split at h
      · rename_i t σ1 hr
        have l1 := dm_run_le _ _ _ _ _ _ hr
        split at h
        · rename_i ht
          rw [ht] at hr
          obtain ⟨rfl, rfl⟩ := Prod.mk.inj (Option.some.inj h)
          have e1 : dm_cost (lx_gb σ1) - dm_cost σ = dm_cost σ1 - dm_cost σ + 1 := by
            have q := l1.1
            have q2 : dm_cost σ1 = σ1.1.length + σ1.2.1.1 := rfl
            have q3 : dm_cost (lx_gb σ1) = σ1.1.length + (σ1.2.1.1 + 1) := rfl
            omega
          have e2 : dm_slo (lx_gb σ1) - dm_slo σ = dm_slo σ1 - dm_slo σ + 6 := by
            have q := l1.2
            have q2 : dm_slo σ1 = (σ1.1.map dm_sz).sum + σ1.2.1.2 := rfl
            have q3 : dm_slo (lx_gb σ1) = (σ1.1.map dm_sz).sum + (σ1.2.1.2 + 6) := rfl
            omega
          rw [show ((σ1.1, (σ1.2.1.1 + 1, σ1.2.1.2 + 6), σ1.2.2) : dm_St) = lx_gb σ1 from rfl, e1, e2]
          exact lx_cat0 (ou := ou) ok ok2 hl hrows hd hsx hr
        · rename_i ht
          split at h
          · rename_i v2 σ2 he
            rw [hb] at he
            split at h
            · rename_i hso
              obtain ⟨rfl, rfl⟩ := Prod.mk.inj (Option.some.inj h)
              rw [show ((σ2.1, σ2.2.1, σ2.2.2.1, dm_up σ2.2.2.2.1 ou 0 v2.toInt64, σ2.2.2.2.2) : dm_St) = lx_put σ2 ou v2 from rfl, show dm_cost (lx_put σ2 ou v2) = dm_cost σ2 from rfl, show dm_slo (lx_put σ2 ou v2) = dm_slo σ2 from rfl]
              exact lx_cat1 (ou := ou) ok ok2 hl hrows hsx hr ht he hso
            · cases h
          · cases h
      · cases h
    · cases h
  · cases h
theorem lx_w2 : (∀ w ∈ [Cond.methodLink RL 119 yL_lease, Cond.static yL_lease, Cond.initialized yL_lease.cls, Cond.methodLink RL 128 yL_share, Cond.static yL_share, Cond.initialized yL_share.cls], w ∈ dm_GW) ∧ (parseMethodDescriptor yL_lease.desc).map (fun d => d.parameters.length) = some 4 ∧ (parseMethodDescriptor yL_share.desc).map (fun d => d.parameters.length) = some 4 := by decide +kernel
theorem lx_d2 : decode cL_law 990 = .ok (.invokestatic 119, 3) ∧ decode cL_law 1058 = .ok (.invokestatic 128, 3) := by decide +kernel
