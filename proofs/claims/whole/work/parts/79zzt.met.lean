/-! The contracts of PulseRent.lease and share. -/
theorem dm_Wd.grow {base : Nat} {D : va_G} {ext : Nat → Nat} {cA : Nat → ClassId} {σ : dm_St} {u U : State} {H H1 : Heap} (ha : u.vm.Alike U.vm) (h : dm_Wd base D ext cA σ u H) (hq : ∀ q : Nat, q < H.size → H1[q]? = H[q]?) : dm_Wd base D ext cA σ U H1 := by
  refine dm_Wd.moved ha ⟨h.1.kept (fun k q hk => hq q.1 (vx_lt h.1 hk)), h.2⟩
def lx_Pc (S : dm_Sc) (base : Nat) (D : va_G) (ext : Nat → Nat) (sa : Nat) (σ : dm_St) (as : List Value) : Array Value → State → Prop := va_Pc (dm_sm base ext as) (fun U => (dm_K S base D ext U U.heap ∧ (∃ cA, dm_Wd base D ext cA σ U U.heap) ∧ U.heap.size ≤ base + dm_cost σ) ∧ lx_K base sa U U.heap)
def lx_XC (base : Nat) (D : va_G) (ext : Nat → Nat) (σ1 : dm_St) : String → State → State → Prop := fun E st t => E = lx_N ∧ (∃ cA, dm_Wd base D ext cA σ1 t t.heap) ∧ va_F (dm_A base) st t
def lx_ws (y : MethodName) (cc : ByteArray) : List Cond := Cond.code y cc 3 (some .int) :: dm_GW
theorem lx_slen (base : Nat) (ext : Nat → Nat) (x : Nat) (v w : Int32) : (lg_sl (dm_sm base ext [.ref x, .int v, .int w])).length ≤ 3 := by
  rw [dm_slen]; exact Nat.le_refl 3
set_option maxHeartbeats 1000000 in
theorem lx_met0 {y : MethodName} {cc : ByteArray} {tl : List dm_Op} (ok : lx_OK y cc tl) {l : Launch} (hl : l.stackTraces = false) {S : dm_Sc} {base : Nat} {D : va_G} {ext : Nat → Nat} {sa : Nat} (hrows : ∀ mi row, dm_tab mi = some row → dm_RowOK mi row) {d N x : Nat} {v w : Int32} {σ σ1 : dm_St} (hd : 4 ≤ d) (hsx : (dm_sh σ)[x]? = some (.inl 10)) (h1 : dm_run S dm_tab d N 142 [.ref x, .int v, .int w] σ = some (some (.int 0), σ1)) :
    vx_Met l y (lx_ws y cc) (dm_rm (d + 1) (dm_cost σ1 - dm_cost σ + 1) (dm_slo σ1 - dm_slo σ + 6)) (lx_Pc S base D ext sa σ [.ref x, .int v, .int w]) (fun _ _ _ _ => False) (lx_XC base D ext σ1) (dm_cost σ1 - dm_cost σ + 1) (dm_slo σ1 - dm_slo σ + 6) (dm_A base) := by
  refine vx_ofW (cc := cc) (maxL := 3) (ret := some .int) ok.2.1 rfl ?_
  intro p e s m args below meth c s₁ B hml hout hP
  obtain ⟨rfl, ⟨hK, ⟨cA, hWd⟩, hsz⟩, hX⟩ := hP
  have hle := dm_run_le _ _ _ _ _ _ h1
  have hts0 := atoms_spec (ws := lx_ws y cc) B.pre
  have hts : ∀ w' ∈ dm_GW, w'.before (dm_sm base ext [.ref x, .int v, .int w]).toArray s = true := fun w' hw => hts0 w' (List.mem_cons_of_mem _ hw)
  have hown : s.vm.findClass RX11 = some m.cls := by rw [← ok.2.2.1]; exact findClass_of_methodNamed B.named
  have Cx : dm_Cx p s m (dm_sm base ext [.ref x, .int v, .int w]).toArray c cc RX11 3 S base D ext (dm_cost σ) := ⟨B.exec, B.bytes, hml, hown, hts, hK, hsz⟩
  have hlv := lv_entry (dm_sm base ext [.ref x, .int v, .int w]) (n := 3) (lx_slen base ext x v w)
  rw [dm_args] at hlv
  rw [lg_entry_eq]
  obtain ⟨-, -, -, ⟨d9, d12, d13, d15, d18, -⟩, -⟩ := id ok
  have G : dm_Go p l e (headSpec (lx_ws y cc) (dm_rm (d + 1) (dm_cost σ1 - dm_cost σ + 1) (dm_slo σ1 - dm_slo σ + 6))).room s m (dm_sm base ext [.ref x, .int v, .int w]).toArray below meth c (vx_MQ below (fun _ _ _ _ => False) (lx_XC base D ext σ1) (dm_sm base ext [.ref x, .int v, .int w]).toArray s (dm_cost σ1 - dm_cost σ + 1) (dm_slo σ1 - dm_slo σ + 6) (dm_A base)) 3 base D ext (dm_cost σ) (dm_slo σ) 0 (lvs [.ref x, .int v, .int w]) [] σ := by
    refine lx_pre ok Cx hrows (d := d) (N := N) rfl hsx h1 ?_ ?_ ?_ (fun h => absurd rfl h)
    · show dm_cost σ1 ≤ dm_cost σ + (dm_cost σ1 - dm_cost σ + 1)
      omega
    · show dm_slo σ1 ≤ dm_slo σ + (dm_slo σ1 - dm_slo σ + 6)
      omega
    · intro _ cA H locs cells slots lsA hA
      have hc := hA.2.2.2.1
      have hs := hA.2.2.2.2
      have hat : ∀ w' ∈ lx_L, w'.before (dm_sm base ext [.ref x, .int v, .int w]).toArray s = true := vx_hat (B := lx_W) (fun w' h => hts w' (lx_L1 w' h)) lx_L2 (fun w' h => va_Nw.use (lx_Wot w' h) (hX.1 w' h))
      refine lx_throwS B.exec B.bytes hl (x0 := lx_0.1) (x1 := lx_0.2.1) (x2 := lx_0.2.2.1) (x5 := lx_0.2.2.2) (own := RX11) (cls := lx_N) (names := ["java/lang/RuntimeException", "java/lang/Exception"]) (ik := 248) (is := 250) (ic := 252) (sa := sa) (A := dm_A base) hown (by decide +kernel) (by decide +kernel) (hts _ lx_L5.1) (hts _ lx_L5.2) hX.2.2.2 hat lx_L4 hX.2.1 hX.2.2.1 hA.2.1 (hA.2.2.1.1.trans hml.symm) d9 d12 d13 d15 d18 (fun x hx => (hout x hx).elim) ?_ ?_ ?_ ?_ B.notSynchronized ?_ (fun z hz => hA.2.1.2.2 z hz) ?_ ?_
      · show 2 + 3 < d + 2
        omega
      · show 0 + (13 * (2 + 1) + 43) ≤ 64 * (d + 2)
        omega
      · show cells + 1 ≤ dm_cost σ1 - dm_cost σ + 1
        omega
      · show slots + 6 ≤ dm_slo σ1 - dm_slo σ + 6
        omega
      · intro t ha hz hq
        refine ⟨rfl, ⟨cA, hA.1.grow ha hq⟩, Nat.le_trans hA.2.1.1 hz, fun q h1 h2 => ?_⟩
        rw [hq q (Nat.lt_of_lt_of_le h1 hA.2.1.1)]
        exact hA.2.1.2.1 q h1 h2
      · omega
      · omega
  exact G cA s.heap [] 0 0 _ ⟨hWd, va_S.rf, hlv, by omega, by omega⟩
set_option maxHeartbeats 1000000 in
theorem lx_met1 {y : MethodName} {cc : ByteArray} {tl : List dm_Op} (ok : lx_OK y cc tl) {l : Launch} {S : dm_Sc} {base : Nat} {D : va_G} {ext : Nat → Nat} {sa : Nat} (hrows : ∀ mi row, dm_tab mi = some row → dm_RowOK mi row) {d N x : Nat} {v w t r : Int32} {σ σ1 σ2 : dm_St} (hsx : (dm_sh σ)[x]? = some (.inl 10)) (h1 : dm_run S dm_tab d N 142 [.ref x, .int v, .int w] σ = some (some (.int t), σ1)) (ht : ¬ t = 0) (h2 : dm_exec S (dm_run S dm_tab d N) (some .int) tl N tl (lvs [.ref x, .int v, .int w]) [] σ1 = some (some (.int r), σ2)) :
    vx_Met l y (lx_ws y cc) (dm_rm (d + 1) (dm_cost σ2 - dm_cost σ) (dm_slo σ2 - dm_slo σ)) (lx_Pc S base D ext sa σ [.ref x, .int v, .int w]) (dm_Qc base D ext (some (.int r)) σ2) (fun _ _ _ => False) (dm_cost σ2 - dm_cost σ) (dm_slo σ2 - dm_slo σ) (dm_A base) := by
  refine vx_ofW (cc := cc) (maxL := 3) (ret := some .int) ok.2.1 rfl ?_
  intro p e s m args below meth c s₁ B hml hout hP
  obtain ⟨rfl, ⟨hK, ⟨cA, hWd⟩, hsz⟩, hX⟩ := hP
  have hle := dm_run_le _ _ _ _ _ _ h1
  have hle2 := dm_exec_le (S := S) (fun mi as σ r σ' h => dm_run_le _ _ _ _ _ _ h) _ _ _ _ _ _ _ h2
  have hl1 := hle.1
  have hl2 := hle.2
  have hl3 := hle2.1
  have hl4 := hle2.2
  have hts0 := atoms_spec (ws := lx_ws y cc) B.pre
  have hts : ∀ w' ∈ dm_GW, w'.before (dm_sm base ext [.ref x, .int v, .int w]).toArray s = true := fun w' hw => hts0 w' (List.mem_cons_of_mem _ hw)
  have hown : s.vm.findClass RX11 = some m.cls := by rw [← ok.2.2.1]; exact findClass_of_methodNamed B.named
  have Cx : dm_Cx p s m (dm_sm base ext [.ref x, .int v, .int w]).toArray c cc RX11 3 S base D ext (dm_cost σ) := ⟨B.exec, B.bytes, hml, hown, hts, hK, hsz⟩
  have hlv := lv_entry (dm_sm base ext [.ref x, .int v, .int w]) (n := 3) (lx_slen base ext x v w)
  rw [dm_args] at hlv
  rw [lg_entry_eq]
  obtain ⟨-, -, -, -, -, hlin, hall, hsl⟩ := id ok
  have G : dm_Go p l e (headSpec (lx_ws y cc) (dm_rm (d + 1) (dm_cost σ2 - dm_cost σ) (dm_slo σ2 - dm_slo σ))).room s m (dm_sm base ext [.ref x, .int v, .int w]).toArray below meth c (vx_MQ below (dm_Qc base D ext (some (.int r)) σ2) (fun _ _ _ => False) (dm_sm base ext [.ref x, .int v, .int w]).toArray s (dm_cost σ2 - dm_cost σ) (dm_slo σ2 - dm_slo σ) (dm_A base)) 3 base D ext (dm_cost σ) (dm_slo σ) 0 (lvs [.ref x, .int v, .int w]) [] σ := by
    refine lx_pre ok Cx hrows (d := d) (N := N) rfl hsx h1 ?_ ?_ (fun h => absurd h ht) (fun _ => ?_)
    · show dm_cost σ1 ≤ dm_cost σ + (dm_cost σ2 - dm_cost σ)
      omega
    · show dm_slo σ1 ≤ dm_slo σ + (dm_slo σ2 - dm_slo σ)
      omega
    · refine dm_bodyA (init := false) (s0 := dm_slo σ) (call := dm_run S dm_tab d N) Cx (fun h => by cases h) hlin hall hsl (fun mi as σ r σ' h => dm_run_le _ _ _ _ _ _ h) (r := some (.int r)) (σf := σ2) ?_ ?_ ?_ ?_ N tl 19 (lvs [.ref x, .int v, .int w]) [] σ1 ⟨⟨[], rfl⟩, hlin⟩ h2
      · show dm_cost σ2 ≤ dm_cost σ + (dm_cost σ2 - dm_cost σ)
        omega
      · show dm_slo σ2 ≤ dm_slo σ + (dm_slo σ2 - dm_slo σ)
        omega
      · intro pc i len aux ls st σ1 ls' st' σ2 ho hi hinv g1 g2 kk
        exact dm_g_inv (d := d) (n := N) Cx rfl hrows (dm_met l S base D ext hrows N d) hi (hall _ ho) hinv g1 g2 kk
      · intro pc i len aux ls st ho hret cA1 H1 locs1 cells1 slots1 lsA1 hA1
        have hoI := hall _ ho
        simp only [dm_okI, Bool.and_eq_true] at hoI
        obtain ⟨hdec0, hlen9, -⟩ := hoI
        have hdec : decode cc pc = .ok (i, len) := of_decide_eq_true hdec0
        clear hdec0
        have hc1 : cells1 = dm_cost σ2 - dm_cost σ := by have := hA1.2.2.2.1; omega
        have hs1 : slots1 = dm_slo σ2 - dm_slo σ := by have := hA1.2.2.2.2; omega
        rw [← hc1, ← hs1]
        have post : ∀ t : State, t.heap = H1 → s.WarmedH t.vm → dm_Qc base D ext (some (.int r)) σ2 (dm_sm base ext [.ref x, .int v, .int w]).toArray s (.returned ((some (.int r) : Option Value).map (dm_cv base ext))) t := fun t ht hW =>
          ⟨rfl, ⟨cA1, by rw [ht]; exact hA1.1.moved hW.alike⟩, hA1.2.1.F ht⟩
        have hfree : ∀ q ∈ locs1, dm_A base q.base := fun q hq => hA1.2.1.2.2 q hq
        refine vx_ret ?_
        rcases hret with ⟨-, -, -, hr⟩ | ⟨rfl, ty, v', hr, rfl, hf, hv⟩ | ⟨-, v', -, -, hv⟩ | ⟨-, nm, v', hr, -⟩
        · cases hr
        · obtain rfl : len = 1 := of_decide_eq_true hlen9
          cases hv
          exact W.zret B.exec B.bytes (B.returns.trans hr) (dm_fits_ok hf).1 post hfree hdec
        · cases hv
        · cases hr
  exact G cA s.heap [] 0 0 _ ⟨hWd, va_S.rf, hlv, by omega, by omega⟩
