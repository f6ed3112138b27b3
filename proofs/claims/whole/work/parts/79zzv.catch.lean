/-! The contracts of PulseRentLaw.lease and share. -/
def lx_ws2 (y2 : MethodName) (cc2 : ByteArray) : List Cond := Cond.codeWith y2 cc2 5 (some .int) [(0, 10, 13, 13)] :: dm_GW
def lx_gb (σ : dm_St) : dm_St := (σ.1, (σ.2.1.1 + 1, σ.2.1.2 + 6), σ.2.2)
def lx_put (σ : dm_St) (ou : Nat) (r : Int32) : dm_St := (σ.1, σ.2.1, σ.2.2.1, dm_up σ.2.2.2.1 ou 0 r.toInt64, σ.2.2.2.2)
set_option maxHeartbeats 1000000 in
theorem lx_cat0 {y y2 : MethodName} {cc cc2 : ByteArray} {ix : Nat} {tl : List dm_Op} (ok : lx_OK y cc tl) (ok2 : lx_OK2 y2 cc2 ix y cc) {l : Launch} (hl : l.stackTraces = false) {S : dm_Sc} {base : Nat} {D : va_G} {ext : Nat → Nat} {sa : Nat} (hrows : ∀ mi row, dm_tab mi = some row → dm_RowOK mi row) {d N x ou : Nat} {v w : Int32} {σ σ1 : dm_St} (hd : 4 ≤ d) (hsx : (dm_sh σ)[x]? = some (.inl 10)) (h1 : dm_run S dm_tab d N 142 [.ref x, .int v, .int w] σ = some (some (.int 0), σ1)) :
    vx_Met l y2 (lx_ws2 y2 cc2) (dm_rm (d + 2) (dm_cost σ1 - dm_cost σ + 1) (dm_slo σ1 - dm_slo σ + 6)) (lx_Pc S base D ext sa σ [.ref x, .int v, .int w, .ref ou]) (dm_Qc base D ext (some (.int 1)) (lx_gb σ1)) (fun _ _ _ => False) (dm_cost σ1 - dm_cost σ + 1) (dm_slo σ1 - dm_slo σ + 6) (dm_A base) := by
  refine vx_ofWH (cc := cc2) (maxL := 5) (ret := some .int) (hh := [(0, 10, 13, 13)]) ok2.1.2.1 rfl ?_
  intro p e s m args below meth c s₁ B hml hP
  obtain ⟨rfl, ⟨hK, ⟨cA, hWd⟩, hsz⟩, hX⟩ := hP
  have hts0 := atoms_spec (ws := lx_ws2 y2 cc2) B.pre
  have hts : ∀ w' ∈ dm_GW, w'.before (dm_sm base ext [.ref x, .int v, .int w, .ref ou]).toArray s = true := fun w' hw => hts0 w' (List.mem_cons_of_mem _ hw)
  have htab : c.exceptionTable.toList = tableOf [(0, 10, 13, 13)] := vx_table (x := y2) B (hts0 _ List.mem_cons_self)
  have hown : s.vm.findClass RL = some m.cls := by rw [← ok2.1.2.2]; exact findClass_of_methodNamed B.named
  have Cx : dm_Cx p s m (dm_sm base ext [.ref x, .int v, .int w, .ref ou]).toArray c cc2 RL 5 S base D ext (dm_cost σ) := ⟨B.exec, B.bytes, hml, hown, hts, hK, hsz⟩
  have hlv := lv_entry (dm_sm base ext [.ref x, .int v, .int w, .ref ou]) (n := 5) (by rw [dm_slen]; exact (show 4 ≤ 5 by decide))
  rw [dm_args] at hlv
  rw [lg_entry_eq]
  obtain ⟨-, ⟨-, -, -, -, w5⟩, -, ⟨d5, d10, d13, d15, d16, d18⟩, ⟨-, -, -, -, -, o8, o9, o17⟩⟩ := id ok2
  have G : dm_Go p l e (headSpec (lx_ws2 y2 cc2) (dm_rm (d + 2) (dm_cost σ1 - dm_cost σ + 1) (dm_slo σ1 - dm_slo σ + 6))).room s m (dm_sm base ext [.ref x, .int v, .int w, .ref ou]).toArray below meth c (vx_MQ below (dm_Qc base D ext (some (.int 1)) (lx_gb σ1)) (fun _ _ _ => False) (dm_sm base ext [.ref x, .int v, .int w, .ref ou]).toArray s (dm_cost σ1 - dm_cost σ + 1) (dm_slo σ1 - dm_slo σ + 6) (dm_A base)) 5 base D ext (dm_cost σ) (dm_slo σ) 0 (lvs [.ref x, .int v, .int w, .ref ou]) [] σ := by
    refine lx_pre2 ok2 Cx (Nat.le_add_right _ _) (Nat.le_add_right _ _) ?_
    intro cA H locs cells slots lsA hA
    refine dm_Wsz (fun hz => ?_)
    have hc0 : cells = 0 := by have := hA.2.2.2.1; omega
    have hs0 : slots = 0 := by have := hA.2.2.2.2; omega
    subst hc0
    subst hs0
    have run := lx_run2 (R := (headSpec (lx_ws2 y2 cc2) (dm_rm (d + 2) (dm_cost σ1 - dm_cost σ + 1) (dm_slo σ1 - dm_slo σ + 6))).room) (ou := ou) (d := d) ok2 ok.1 ok.2.2.1 Cx hX rfl hsx (lx_met0 (l := l) (S := S) (base := base) (D := D) (ext := ext) (sa := sa) ok hl hrows hd hsx h1) hA hz ⟨Nat.le_of_eq (Nat.zero_add _), Nat.le_of_eq (Nat.zero_add _)⟩ (below := below) (meth := meth) (p := p) (e := e)
    intro T hT X
    rcases run T hT X with ⟨v, st₀, t, T', L, h0, X', hL, e1, e2, hF, st⟩ | ⟨q, st₀, t, T', L, E, ce, h0, X', hL, e1, e2, ⟨rfl, ⟨cA2, hW2⟩, hz2, hk2⟩, hce, hcv, hcl, st⟩
    · exact hF.elim
    · have kk : W p l e (headSpec (lx_ws2 y2 cc2) (dm_rm (d + 2) (dm_cost σ1 - dm_cost σ + 1) (dm_slo σ1 - dm_slo σ + 6))).room s m (dm_sm base ext [.ref x, .int v, .int w, .ref ou]).toArray below meth c T'.heap (locs ++ L) (0 + (dm_cost σ1 - dm_cost σ + 1)) (0 + (dm_slo σ1 - dm_slo σ + 6)) (vx_MQ below (dm_Qc base D ext (some (.int 1)) (lx_gb σ1)) (fun _ _ _ => False) (dm_sm base ext [.ref x, .int v, .int w, .ref ou]).toArray s (dm_cost σ1 - dm_cost σ + 1) (dm_slo σ1 - dm_slo σ + 6) (dm_A base)) (F0 m 13 lsA [.ref q]) := by
        rw [Nat.zero_add, Nat.zero_add]
        refine lv_astore B.exec B.bytes d13 hA.2.2.1 (by decide) rfl (fun ls' hls' => ?_)
        refine lv_iconst B.exec B.bytes d15 (rfl : Int32.ofInt 1 = 1) ?_
        refine vx_ret (W.zret B.exec B.bytes B.returns rfl (fun t2 ht2 hW => ?_) (fun z hz => ?_) d16 B.notSynchronized)
        · refine ⟨rfl, ⟨cA2, ?_⟩, ?_⟩
          · have ha : t.vm.Alike t2.vm := by
              have a1 : s.vm.Alike t.vm := by rw [← e2]; exact X'.warmed.alike
              exact a1.symm.trans hW.alike
            have := dm_Wd.moved ha hW2
            rw [ht2, e1]
            exact this
          · rw [h0] at hz2 hk2
            refine ⟨by rw [ht2, e1]; exact Nat.le_trans hA.2.1.1 hz2, fun q' g1 g2 => ?_⟩
            rw [ht2, e1, hk2 q' (Nat.lt_of_lt_of_le g1 hA.2.1.1) g2]
            exact hA.2.1.2.1 q' g1 g2
        · rcases List.mem_append.mp hz with g | g
          · exact hA.2.1.2.2 z g
          · exact hL z g
      obtain ⟨t2, a1, b1⟩ := vx_catch (pc := 5) (ls := lsA) (rest := dm_sm base ext [.int 0, .ref ou]) (name := lx_N) hown [] ⟨0, 10, 13, 13⟩ [] htab (fun z hz => nomatch hz) (by decide) (by decide) (hts _ w5) (va_Nw.use rfl (hX.1 (.castable lx_N lx_N) (by simp [lx_W]))) (by rw [e1]; exact hce) hcv hcl kk T' rfl X'
      exact ⟨t2, st.trans a1, b1⟩
  exact G cA s.heap [] 0 0 _ ⟨hWd, va_S.rf, hlv, by omega, by omega⟩
set_option maxHeartbeats 1000000 in
theorem lx_cat1 {y y2 : MethodName} {cc cc2 : ByteArray} {ix : Nat} {tl : List dm_Op} (ok : lx_OK y cc tl) (ok2 : lx_OK2 y2 cc2 ix y cc) {l : Launch} (hl : l.stackTraces = false) {S : dm_Sc} {base : Nat} {D : va_G} {ext : Nat → Nat} {sa : Nat} (hrows : ∀ mi row, dm_tab mi = some row → dm_RowOK mi row) {d N x ou : Nat} {v w t r : Int32} {σ σ1 σ2 : dm_St} (hsx : (dm_sh σ)[x]? = some (.inl 10)) (h1 : dm_run S dm_tab d N 142 [.ref x, .int v, .int w] σ = some (some (.int t), σ1)) (ht : ¬ t = 0) (h2 : dm_exec S (dm_run S dm_tab d N) (some .int) tl N tl (lvs [.ref x, .int v, .int w]) [] σ1 = some (some (.int r), σ2)) (hso : (dm_sh σ2)[ou]? = some (.inr (1, 1))) :
    vx_Met l y2 (lx_ws2 y2 cc2) (dm_rm (d + 2) (dm_cost σ2 - dm_cost σ) (dm_slo σ2 - dm_slo σ)) (lx_Pc S base D ext sa σ [.ref x, .int v, .int w, .ref ou]) (dm_Qc base D ext (some (.int 0)) (lx_put σ2 ou r)) (fun _ _ _ => False) (dm_cost σ2 - dm_cost σ) (dm_slo σ2 - dm_slo σ) (dm_A base) := by
  have hle := dm_run_le _ _ _ _ _ _ h1
  have hle2 := dm_exec_le (S := S) (fun mi as σ r σ' h => dm_run_le _ _ _ _ _ _ h) _ _ _ _ _ _ _ h2
  have hl1 := hle.1
  have hl2 := hle.2
  have hl3 := hle2.1
  have hl4 := hle2.2
  refine vx_ofWH (cc := cc2) (maxL := 5) (ret := some .int) (hh := [(0, 10, 13, 13)]) ok2.1.2.1 rfl ?_
  intro p e s m args below meth c s₁ B hml hP
  obtain ⟨rfl, ⟨hK, ⟨cA, hWd⟩, hsz⟩, hX⟩ := hP
  have hts0 := atoms_spec (ws := lx_ws2 y2 cc2) B.pre
  have hts : ∀ w' ∈ dm_GW, w'.before (dm_sm base ext [.ref x, .int v, .int w, .ref ou]).toArray s = true := fun w' hw => hts0 w' (List.mem_cons_of_mem _ hw)
  have htab : c.exceptionTable.toList = tableOf [(0, 10, 13, 13)] := vx_table (x := y2) B (hts0 _ List.mem_cons_self)
  have hown : s.vm.findClass RL = some m.cls := by rw [← ok2.1.2.2]; exact findClass_of_methodNamed B.named
  have Cx : dm_Cx p s m (dm_sm base ext [.ref x, .int v, .int w, .ref ou]).toArray c cc2 RL 5 S base D ext (dm_cost σ) := ⟨B.exec, B.bytes, hml, hown, hts, hK, hsz⟩
  have hlv := lv_entry (dm_sm base ext [.ref x, .int v, .int w, .ref ou]) (n := 5) (by rw [dm_slen]; exact (show 4 ≤ 5 by decide))
  rw [dm_args] at hlv
  rw [lg_entry_eq]
  obtain ⟨-, ⟨-, -, -, -, w5⟩, -, ⟨d5, d10, d13, d15, d16, d18⟩, ⟨-, -, -, -, -, o8, o9, o17⟩⟩ := id ok2
  have G : dm_Go p l e (headSpec (lx_ws2 y2 cc2) (dm_rm (d + 2) (dm_cost σ2 - dm_cost σ) (dm_slo σ2 - dm_slo σ))).room s m (dm_sm base ext [.ref x, .int v, .int w, .ref ou]).toArray below meth c (vx_MQ below (dm_Qc base D ext (some (.int 0)) (lx_put σ2 ou r)) (fun _ _ _ => False) (dm_sm base ext [.ref x, .int v, .int w, .ref ou]).toArray s (dm_cost σ2 - dm_cost σ) (dm_slo σ2 - dm_slo σ) (dm_A base)) 5 base D ext (dm_cost σ) (dm_slo σ) 0 (lvs [.ref x, .int v, .int w, .ref ou]) [] σ := by
    refine lx_pre2 ok2 Cx (Nat.le_add_right _ _) (Nat.le_add_right _ _) ?_
    intro cA H locs cells slots lsA hA
    refine dm_Wsz (fun hz => ?_)
    have hc0 : cells = 0 := by have := hA.2.2.2.1; omega
    have hs0 : slots = 0 := by have := hA.2.2.2.2; omega
    subst hc0
    subst hs0
    have run := lx_run2 (R := (headSpec (lx_ws2 y2 cc2) (dm_rm (d + 2) (dm_cost σ2 - dm_cost σ) (dm_slo σ2 - dm_slo σ))).room) (ou := ou) (d := d) ok2 ok.1 ok.2.2.1 Cx hX rfl hsx (lx_met1 (l := l) (S := S) (base := base) (D := D) (ext := ext) (sa := sa) ok hrows hsx h1 ht h2) hA hz ⟨Nat.le_of_eq (Nat.zero_add _), Nat.le_of_eq (Nat.zero_add _)⟩ (below := below) (meth := meth) (p := p) (e := e)
    have rc : dm_cost σ2 ≤ dm_cost σ + (dm_cost σ2 - dm_cost σ) := by omega
    have rs : dm_slo σ2 ≤ dm_slo σ + (dm_slo σ2 - dm_slo σ) := by omega
    have K18 : dm_Go p l e (headSpec (lx_ws2 y2 cc2) (dm_rm (d + 2) (dm_cost σ2 - dm_cost σ) (dm_slo σ2 - dm_slo σ))).room s m (dm_sm base ext [.ref x, .int v, .int w, .ref ou]).toArray below meth c (vx_MQ below (dm_Qc base D ext (some (.int 0)) (lx_put σ2 ou r)) (fun _ _ _ => False) (dm_sm base ext [.ref x, .int v, .int w, .ref ou]).toArray s (dm_cost σ2 - dm_cost σ) (dm_slo σ2 - dm_slo σ) (dm_A base)) 5 base D ext (dm_cost σ) (dm_slo σ) 18 (lvs [.ref x, .int v, .int w, .ref ou]) [.int 0] (lx_put σ2 ou r) := by
      intro cA1 H1 locs1 cells1 slots1 lsA1 hA1
      have e9 : dm_cost (lx_put σ2 ou r) = dm_cost σ2 := rfl
      have e8 : dm_slo (lx_put σ2 ou r) = dm_slo σ2 := rfl
      have hc1 : cells1 = dm_cost σ2 - dm_cost σ := by have := hA1.2.2.2.1; omega
      have hs1 : slots1 = dm_slo σ2 - dm_slo σ := by have := hA1.2.2.2.2; omega
      rw [← hc1, ← hs1]
      exact vx_ret (W.zret B.exec B.bytes B.returns rfl (fun t2 ht2 hW => ⟨rfl, ⟨cA1, by rw [ht2]; exact hA1.1.moved hW.alike⟩, hA1.2.1.F ht2⟩) (fun q hq => hA1.2.1.2.2 q hq) d18 B.notSynchronized)
    have K8 : dm_Go p l e (headSpec (lx_ws2 y2 cc2) (dm_rm (d + 2) (dm_cost σ2 - dm_cost σ) (dm_slo σ2 - dm_slo σ))).room s m (dm_sm base ext [.ref x, .int v, .int w, .ref ou]).toArray below meth c (vx_MQ below (dm_Qc base D ext (some (.int 0)) (lx_put σ2 ou r)) (fun _ _ _ => False) (dm_sm base ext [.ref x, .int v, .int w, .ref ou]).toArray s (dm_cost σ2 - dm_cost σ) (dm_slo σ2 - dm_slo σ) (dm_A base)) 5 base D ext (dm_cost σ) (dm_slo σ) 8 (lvs [.ref x, .int v, .int w, .ref ou]) [.int r, .int 0, .ref ou] σ2 := by
      refine dm_step (i := .i2l) (len := 1) (aux := []) (init := false) (ls' := lvs [.ref x, .int v, .int w, .ref ou]) (st' := [.long r.toInt64, .int 0, .ref ou]) (σ' := σ2) Cx (fun h => by cases h) (by decide) o8 rfl rc rs ?_
      refine dm_step (i := .lastore) (len := 1) (aux := []) (init := false) (ls' := lvs [.ref x, .int v, .int w, .ref ou]) (st' := []) (σ' := lx_put σ2 ou r) Cx (fun h => by cases h) (by decide) o9 ?_ rc rs ?_
      · show dm_last (lvs [.ref x, .int v, .int w, .ref ou]) [.long r.toInt64, .int 0, .ref ou] σ2 = _
        unfold dm_last
        dsimp only
        rw [hso]
        rfl
      · intro cA1 H1 locs1 cells1 slots1 lsA1 hA1
        refine lv_goto B.exec B.bytes d10 (rfl : ((10 : Nat) : Int) + 7 = ((17 : Nat) : Int)) ?_
        exact dm_step (R := (headSpec (lx_ws2 y2 cc2) (dm_rm (d + 2) (dm_cost σ2 - dm_cost σ) (dm_slo σ2 - dm_slo σ))).room) (pc := 17) (i := .iconst 0) (len := 1) (aux := []) (init := false) (ls' := lvs [.ref x, .int v, .int w, .ref ou]) (st' := [.int 0]) (σ' := lx_put σ2 ou r) Cx (fun h => by cases h) (by decide) o17 rfl rc rs K18 cA1 H1 locs1 cells1 slots1 lsA1 hA1
    intro T hT X
    rcases run T hT X with ⟨v9, st₀, t9, T', L, h0, X', hL, e1, e2, ⟨hv, ⟨cA2, hW2⟩, hz2, hk2⟩, st⟩ | ⟨q, st₀, t9, T', L, E, ce, h0, X', hL, e1, e2, hF, -⟩
    · cases hv
      rw [h0] at hz2 hk2
      have ha : t9.vm.Alike s.vm := by rw [← e2]; exact X'.warmed.alike.symm
      obtain ⟨t2, a1, b1⟩ := K8 cA2 T'.heap (locs ++ L) _ _ lsA ⟨by rw [e1]; exact hW2.moved ha, ⟨Nat.le_trans hA.2.1.1 (by rw [e1]; exact hz2), fun q g1 g2 => by rw [e1, hk2 q (Nat.lt_of_lt_of_le g1 hA.2.1.1) g2]; exact hA.2.1.2.1 q g1 g2, fun q hq => by
        rcases List.mem_append.mp hq with g | g
        · exact hA.2.1.2.2 q g
        · exact hL q g⟩, hA.2.2.1, by omega, by omega⟩ T' rfl X'
      exact ⟨t2, st t2 a1, b1⟩
    · exact hF.elim
  exact G cA s.heap [] 0 0 _ ⟨hWd, va_S.rf, hlv, by omega, by omega⟩
