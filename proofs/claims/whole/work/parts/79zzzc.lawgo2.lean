/-! The law's body on the machine, out of its pure run. -/
section LWG
variable {p : Program} {l : Launch} {e : Env} {R : Room} {s : State} {m : MethodId} {args : Array Value} {below : List Frame} {meth : Method} {c : Code} {Q : State → Prop}
variable {S : dm_Sc} {base : Nat} {D : va_G} {ext : Nat → Nat} {c0 s0 sa : Nat}
theorem lw_go (hl : l.stackTraces = false) (hrows : ∀ mi row, dm_tab mi = some row → dm_RowOK mi row) (hall : ∀ o ∈ qL_law, dm_okI RL cL_law false o = true) (Cx : dm_Cx p s m args c cL_law RL 7 S base D ext c0) (hX : lx_K base sa s s.heap) (hR : 64 ≤ R.frames ∧ 4096 ≤ R.locals) {n N : Nat} {σ0 σf : dm_St} {ls : dm_Lv} (hex : dm_exec S (lcall S 60 N) (some .boolean) qL_law n qL_law ls [] σ0 = some (some (.int 1), σf)) (hRc : dm_cost σf ≤ c0 + R.cells) (hRs : dm_slo σf ≤ s0 + R.slots)
    (hret : ∀ (pc : Nat) (i : Instr) (len : Nat) (aux : List Int) (ls : dm_Lv) (st : List Value), (pc, i, len, aux) ∈ qL_law → dm_isRet (some .boolean) i st (some (.int 1)) → dm_Go p l e R s m args below meth c Q 7 base D ext c0 s0 pc ls st σf) :
    dm_Go p l e R s m args below meth c Q 7 base D ext c0 s0 0 ls [] σ0 := by
  have hck : ∀ o ∈ qL_law, lw_ck o = true := List.all_eq_true.mp lw_ck_ok
  refine dm_bodyA (init := false) (call := lcall S 60 N) Cx (fun h => by cases h) lw_lin hall (List.all_eq_true.mp lw_okT) lcall_le hRc hRs ?_ hret n qL_law 0 ls [] σ0 ⟨⟨[], rfl⟩, lw_lin⟩ hex
  intro pc i len aux ls st σ ls' st' σ' ho hi hinv g1 g2 kk
  rcases lw_cs (hck _ ho) with e9 | e9 | e9
  · cases e9
    obtain ⟨as, rest, r, hlz, hst, hwt, rfl, rfl⟩ := lw_inv1 (b := false) (k := 1000) rfl ⟨_, rfl⟩ hinv
    exact lx_ginv (d := 58) (N := N) (b := false) lx_OKl lx_OK2l hl hrows Cx hX (by decide) ⟨by omega, by omega⟩ lx_d2.1 ⟨lx_w2.1 _ (by simp), lx_w2.1 _ (by simp), lx_w2.1 _ (by simp)⟩ ⟨by decide, by decide, lx_w2.2.1⟩ rfl hlz (lcall_le (S := S) (d := 60) (N := N) 1000 as σ r σ' hlz) hst hwt g1 g2 kk
  · cases e9
    obtain ⟨as, rest, r, hlz, hst, hwt, rfl, rfl⟩ := lw_inv1 (b := true) (k := 1001) rfl ⟨_, rfl⟩ hinv
    exact lx_ginv (d := 58) (N := N) (b := true) lx_OKs lx_OK2s hl hrows Cx hX (by decide) ⟨by omega, by omega⟩ lx_d2.2 ⟨lx_w2.1 _ (by simp), lx_w2.1 _ (by simp), lx_w2.1 _ (by simp)⟩ ⟨by decide, by decide, lx_w2.2.2⟩ rfl hlz (lcall_le (S := S) (d := 60) (N := N) 1001 as σ r σ' hlz) hst hwt g1 g2 kk
  · rw [lw_inv0 (aux := aux) e9] at hinv
    exact dm_g_invG (d := 60) (n := N) Cx ⟨by omega, by omega⟩ hrows (dm_met l S base D ext hrows N 60) hi (hall _ ho) hinv g1 g2 kk
end LWG
