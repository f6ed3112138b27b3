/-! PulseRent.lease and share: they throw, or they answer. -/
def lx_K (base sa : Nat) (U : State) (H : Heap) : Prop := (∀ w ∈ lx_W, va_Nw w U) ∧ vx_Zq Bundle.tN "UNASSIGNED_STACK" Bundle.steD (dm_A base) U H ∧ vx_Zq Bundle.tN "SUPPRESSED_SENTINEL" Bundle.listD (dm_A base) U H ∧ vk_R RX11 250 "a lease is of two who are in" sa U
theorem lx_Wot : ∀ w ∈ lx_W, w.onTables = true := by
  intro w hw
  simp only [lx_W, List.mem_cons, List.not_mem_nil, or_false] at hw
  rcases hw with rfl | rfl | rfl | rfl <;> rfl
theorem lx_K.warm {base sa : Nat} {u U : State} {H : Heap} (hW : u.WarmedH U.vm) (h : lx_K base sa u H) : lx_K base sa U H := by
  refine ⟨fun w hw => ?_, h.2.1.moved hW.alike, h.2.2.1.moved hW.alike, h.2.2.2.warm hW⟩
  have h1 := h.1 w hw
  simp only [lx_W, List.mem_cons, List.not_mem_nil, or_false] at hw
  rcases hw with rfl | rfl | rfl | rfl
  · exact va_Nw.warmD hW h1
  · exact va_Nw.warmD hW h1
  · exact va_Nw.warmD hW h1
  · exact va_tabs rfl (rfl : (u.setVm U.vm).vm = U.vm) (by rw [Cond.castable_setVm hW.alike]; exact h1)
theorem lx_K.same {base sa : Nat} {u U : State} {H : Heap} (hv : U.vm = u.vm) (h : lx_K base sa u H) : lx_K base sa U H := by
  have ha : u.vm.Alike U.vm := by rw [hv]; exact Vm.Alike.refl u.vm
  exact ⟨fun w hw => va_Nw.same (lx_Wot w hw) hv.symm (h.1 w hw), h.2.1.moved ha, h.2.2.1.moved ha, h.2.2.2.same hv⟩
theorem lx_K.kept {base sa : Nat} {U : State} {H H1 : Heap} (h : lx_K base sa U H) (hq : ∀ a : Nat, a < H.size → ¬ dm_A base a → H1[a]? = H[a]?) : lx_K base sa U H1 := ⟨h.1, h.2.1.kept hq, h.2.2.1.kept hq, h.2.2.2⟩
/-- which method: its name, its code, its rest from 19 on -/
def lx_OK (y : MethodName) (cc : ByteArray) (tl : List dm_Op) : Prop := Cond.code y cc 3 (some .int) ∈ dm_GW ∧ plainName y.cls = true ∧ y.cls = RX11 ∧ (decode cc 9 = .ok (.new 248, 3) ∧ decode cc 12 = .ok (.dup, 1) ∧ decode cc 13 = .ok (.ldc 250, 2) ∧ decode cc 15 = .ok (.invokespecial 252, 3) ∧ decode cc 18 = .ok (.athrow, 1) ∧ decode cc 6 = .ok (.ifCond .ne 13, 3)) ∧
  (dm_okI RX11 cc false (0, .aload_n 0, 1, []) = true ∧ dm_okI RX11 cc false (1, .iload_n 1, 1, []) = true ∧ dm_okI RX11 cc false (2, .iload_n 2, 1, []) = true ∧ dm_okI RX11 cc false (3, .invokevirtual 244, 3, [0, 142, 3, 10, 0, 4212]) = true) ∧ dm_lin 19 tl = true ∧ (∀ o ∈ tl, dm_okI RX11 cc false o = true) ∧ ∀ o ∈ tl, dm_okT 3 o = true
set_option maxRecDepth 100000 in
theorem lx_OKl : lx_OK yX11_lease cX11_lease kLl_19 := ⟨lx_L6.1, by decide, rfl, lx_D, by decide +kernel, by decide +kernel, List.all_eq_true.mp (by decide +kernel), List.all_eq_true.mp (by decide +kernel)⟩
set_option maxRecDepth 100000 in
theorem lx_OKs : lx_OK yX11_share cX11_share kLs_19 := ⟨lx_L6.2.1, by decide, rfl, lx_E, by decide +kernel, by decide +kernel, List.all_eq_true.mp (by decide +kernel), List.all_eq_true.mp (by decide +kernel)⟩
section LXM
variable {p : Program} {l : Launch} {e : Env} {R : Room} {s : State} {m : MethodId} {args : Array Value} {below : List Frame} {meth : Method} {c : Code} {Q : State → Prop}
variable {cc : ByteArray} {S : dm_Sc} {base : Nat} {D : va_G} {ext : Nat → Nat} {σ σ1 : dm_St} {c0 s0 : Nat}
/-- up to the test -/
theorem lx_pre {y : MethodName} {tl : List dm_Op} (ok : lx_OK y cc tl) (Cx : dm_Cx p s m args c cc RX11 3 S base D ext c0) (hrows : ∀ mi row, dm_tab mi = some row → dm_RowOK mi row) {d N : Nat} (hR : dm_rm (d + 1) R.cells R.slots = R) {x : Nat} {v w t : Int32} (hsx : (dm_sh σ)[x]? = some (.inl 10)) (h1 : dm_run S dm_tab d N 142 [.ref x, .int v, .int w] σ = some (some (.int t), σ1)) (hRc : dm_cost σ1 ≤ c0 + R.cells) (hRs : dm_slo σ1 ≤ s0 + R.slots)
    (k9 : t = 0 → dm_Go p l e R s m args below meth c Q 3 base D ext c0 s0 9 (lvs [.ref x, .int v, .int w]) [] σ1) (k19 : ¬ t = 0 → dm_Go p l e R s m args below meth c Q 3 base D ext c0 s0 19 (lvs [.ref x, .int v, .int w]) [] σ1) :
    dm_Go p l e R s m args below meth c Q 3 base D ext c0 s0 0 (lvs [.ref x, .int v, .int w]) [] σ := by
  obtain ⟨-, -, -, ⟨-, -, -, -, -, d6⟩, ⟨o0, o1, o2, o3⟩, -⟩ := ok
  have hle := dm_run_le _ _ _ _ _ _ h1
  have q1 : dm_cost σ ≤ c0 + R.cells := Nat.le_trans hle.1 hRc
  have q2 : dm_slo σ ≤ s0 + R.slots := Nat.le_trans hle.2 hRs
  refine dm_step (i := .aload_n 0) (len := 1) (aux := []) (init := false) (ls' := lvs [.ref x, .int v, .int w]) (st' := [.ref x]) (σ' := σ) Cx (fun h => by cases h) (by decide) o0 rfl q1 q2 ?_
  refine dm_step (i := .iload_n 1) (len := 1) (aux := []) (init := false) (ls' := lvs [.ref x, .int v, .int w]) (st' := [.int v, .ref x]) (σ' := σ) Cx (fun h => by cases h) (by decide) o1 rfl q1 q2 ?_
  refine dm_step (i := .iload_n 2) (len := 1) (aux := []) (init := false) (ls' := lvs [.ref x, .int v, .int w]) (st' := [.int w, .int v, .ref x]) (σ' := σ) Cx (fun h => by cases h) (by decide) o2 rfl q1 q2 ?_
  refine dm_g_inv (d := d) (n := N) (i := .invokevirtual 244) (len := 3) (aux := [0, 142, 3, 10, 0, 4212]) (init := false) (ls' := lvs [.ref x, .int v, .int w]) (st' := [.int t]) (σ' := σ1) Cx hR hrows (dm_met l S base D ext hrows N d) (Or.inl ⟨_, rfl⟩) o3 ?_ hRc hRs ?_
  · have hr : dm_rcv σ 10 [.ref x, .int v, .int w] = true := by rw [dm_rcvR, decide_eq_true_eq]; exact hsx
    unfold dm_inv
    dsimp only
    rw [if_pos ⟨Nat.le_refl 3, rfl, Or.inr hr⟩]
    show (match dm_run S dm_tab d N 142 [.ref x, .int v, .int w] σ with | some (r, σ') => _ | none => none) = _
    rw [h1]
    rfl
  · obtain ⟨hx, hb, -⟩ := Cx
    intro cA H locs cells slots lsA hA
    exact lv_if_ne hx hb d6 rfl (fun hc => k19 hc cA H locs cells slots lsA hA) (fun hc => k9 hc cA H locs cells slots lsA hA)
end LXM
