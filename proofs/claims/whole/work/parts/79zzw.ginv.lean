/-! A call in a frame with more room. -/
section DMCG
variable {p : Program} {l : Launch} {e : Env} {R : Room} {s : State} {m : MethodId} {args : Array Value} {below : List Frame} {meth : Method} {c : Code} {H : Heap} {locs : List Loc} {cells slots : Nat} {Q : State → Prop}
variable {cc : ByteArray} {own : String} {nL : Nat} {S : dm_Sc} {base : Nat} {D : va_G} {ext : Nat → Nat} {cA : Nat → ClassId} {σ σ' : dm_St} {ls ls' : dm_Lv} {st st' : List Value} {lsA : Array Slot} {pc c0 s0 : Nat}
theorem dm_roomG {row : dm_Row} {d mc ms : Nat} (h : Nat.ble row.2.2.1 45 = true) (hR : d + 2 ≤ R.frames ∧ 64 * (d + 2) ≤ R.locals) : (dm_rm d mc ms).frames + 1 ≤ R.frames ∧ 8 + (row.2.2.1 + 11) + (dm_rm d mc ms).locals ≤ R.locals := by
  have h1 := Nat.le_of_ble_eq_true h
  simp only [dm_rm]
  omega
/-- a call of a method of the table -/
theorem dm_g_invG {d n : Nat} {i : Instr} {len : Nat} {aux : List Int} {init : Bool} (Cx : dm_Cx p s m args c cc own nL S base D ext c0) (hR : d + 2 ≤ R.frames ∧ 64 * (d + 2) ≤ R.locals) (hrows : ∀ mi row, dm_tab mi = some row → dm_RowOK mi row)
    (hmet : ∀ (mi : Nat) (row : dm_Row) (as : List Value) (σ : dm_St) (r : Option Value) (σ' : dm_St), dm_tab mi = some row → dm_run S dm_tab d n mi as σ = some (r, σ') → Met l row.1 (dm_wU row) (dm_rm d (dm_cost σ' - dm_cost σ) (dm_slo σ' - dm_slo σ)) (dm_Pc S base D ext σ as) (dm_Qc base D ext r σ') (dm_cost σ' - dm_cost σ) (dm_slo σ' - dm_slo σ) (dm_A base))
    (hi : (∃ x, i = .invokevirtual x) ∨ (∃ x, i = .invokestatic x) ∨ ∃ x, i = .invokespecial x) (hok : dm_okI own cc init (pc, i, len, aux) = true) (h : dm_inv (dm_run S dm_tab d n) aux ls st σ = some (ls', st', σ')) (hRc : dm_cost σ' ≤ c0 + R.cells) (hRs : dm_slo σ' ≤ s0 + R.slots) (kk : dm_Go p l e R s m args below meth c Q nL base D ext c0 s0 (pc + 3) ls' st' σ') : dm_Go p l e R s m args below meth c Q nL base D ext c0 s0 pc ls st σ := by
  intro cA H locs cells slots lsA hA
  refine dm_Wsz (fun hz => ?_)
  obtain ⟨hx, hb, hml, hown, hts, hK, hsz⟩ := id Cx
  simp only [dm_okI, Bool.and_eq_true] at hok
  obtain ⟨hdec0, hlen, hrest⟩ := hok
  have hdec : decode cc pc = .ok (i, len) := of_decide_eq_true hdec0
  clear hdec0
  obtain ⟨kd, ix, hkd, hlen3, hokC, hdec3⟩ : ∃ (kd : Int) (ix : Nat), ((kd = 0 ∧ i = .invokevirtual ix) ∨ (kd = 1 ∧ i = .invokestatic ix) ∨ (kd = 2 ∧ i = .invokespecial ix)) ∧ len = 3 ∧ dm_okC own ix kd aux = true ∧ decode cc pc = .ok (i, 3) := by
    rcases hi with ⟨x, rfl⟩ | ⟨x, rfl⟩ | ⟨x, rfl⟩
    · obtain rfl : len = 3 := of_decide_eq_true hlen
      exact ⟨0, x, Or.inl ⟨rfl, rfl⟩, rfl, hrest, hdec⟩
    · obtain rfl : len = 3 := of_decide_eq_true hlen
      exact ⟨1, x, Or.inr (Or.inl ⟨rfl, rfl⟩), rfl, hrest, hdec⟩
    · obtain rfl : len = 3 := of_decide_eq_true hlen
      exact ⟨2, x, Or.inr (Or.inr ⟨rfl, rfl⟩), rfl, hrest, hdec⟩
  clear hrest hlen hdec
  have hcA := hA.2.2.2.1
  have hsA := hA.2.2.2.2
  unfold dm_inv at h
  split at h
  · rename_i kd' mi na ci tl
    dsimp only at h
    split at h
    · rename_i hc
      obtain ⟨hna, hwt, hrcv⟩ := hc
      split at h
      · rename_i r σ1 hrun
        cases h
        have hle := dm_run_le d mi.toNat _ σ r σ' hrun
        obtain ⟨ns, w, rfl⟩ : ∃ ns w, tl = [ns, w] := by
          match tl, hokC with
          | [ns, w], _ => exact ⟨ns, w, rfl⟩
          | [], h => cases h
          | [a], h => cases h
          | a :: b :: c :: t, h => cases h
        simp only [dm_okC, Bool.and_eq_true, decide_eq_true_eq] at hokC
        obtain ⟨rfl, hokC⟩ := hokC
        split at hokC
        · rename_i row hrow
          simp only [Bool.and_eq_true, decide_eq_true_eq] at hokC
          obtain ⟨hst9, hni, hlk, hpar, hcls⟩ := hokC
          obtain ⟨hokM, hokR⟩ := hrows _ _ hrow
          obtain ⟨hcode, hinit, hplain, hownR, hmh, hmax, hT, hkS, hkI⟩ := hokR
          have hM := hmet mi.toNat row _ σ r σ' hrow hrun
          obtain ⟨est, elen⟩ := dm_take (st := st) hna
          generalize hAs : (st.take na.toNat).reverse = As at *
          generalize hRs9 : st.drop na.toNat = rest at *
          have hroom := dm_roomG (row := row) (d := d) (mc := dm_cost σ' - dm_cost σ) (ms := dm_slo σ' - dm_slo σ) hmax hR
          have hfit : cells + (dm_cost σ' - dm_cost σ) ≤ R.cells ∧ slots + (dm_slo σ' - dm_slo σ) ≤ R.slots := by
            have := hle.1
            have := hle.2
            omega
          have hlinkOr := dm_lkM hts hK.2.2.1 hlk
          have fin : ∀ {st0 : List Value} {Ar : Array Value}, va_Run p l e R s m args below meth c H locs cells slots (dm_cost σ' - dm_cost σ) (dm_slo σ' - dm_slo σ) (F0 m pc lsA st0) (dm_sm base ext rest) (dm_Qc base D ext r σ' Ar) (dm_A base) → W p l e R s m args below meth c H locs cells slots Q (F0 m pc lsA st0) := by
            intro st0 Ar hr
            refine dm_callGo (r := r) hr hA.2.1 (fun cA1 H1 locs1 hW1 hS1 => ?_)
            have h9 := kk cA1 H1 locs1 (cells + (dm_cost σ' - dm_cost σ)) (slots + (dm_slo σ' - dm_slo σ)) lsA ⟨hW1, hS1, hA.2.2.1, by have := hle.1; omega, by have := hle.2; omega⟩
            rw [dm_sm_app] at h9
            have e9 : dm_sm base ext r.toList = (r.map (dm_cv base ext)).toList := by cases r <;> rfl
            rw [e9] at h9
            exact h9
          have hstk : dm_sm base ext st = (dm_sm base ext As).reverse ++ dm_sm base ext rest := by rw [est, dm_sm_app, dm_sm_rev]
          have hwt2 : 2 * (F0 m pc lsA (dm_sm base ext st)).monitorRoom + ((dm_sm base ext rest).map fun v => v.category).sum ≤ 8 := lv_room (dm_wait_sum hwt)
          have hparN : ∀ n9 : Nat, na.toNat = n9 + (if kd' = 1 then 0 else 1) → (parseMethodDescriptor row.1.desc).map (fun d => d.parameters.length) = some n9 := by
            intro n9 hn9
            cases hp : parseMethodDescriptor row.1.desc with
            | none => rw [hp] at hpar; cases hpar
            | some d9 =>
              rw [hp] at hpar
              simp only [Option.map_some, Option.some.injEq] at hpar ⊢
              omega
          rcases hkd with ⟨rfl, rfl⟩ | ⟨rfl, rfl⟩ | ⟨rfl, rfl⟩
          · -- virtual
            have hns : ¬ mi.toNat ∈ dm_stat := fun z => absurd (hst9.mp z) (by decide)
            obtain ⟨hinst, hsel⟩ := hkI hns
            have hsel : Cond.selects row.1.cls row.1 row.1 ∈ dm_GW := hsel.resolve_left (hni rfl)
            have hr9 : dm_rcv σ ci.toNat As = true := hrcv.resolve_left (by decide)
            obtain ⟨b, As', eAs, hrecv⟩ : ∃ (b : Nat) (As' : List Value), dm_sm base ext As = .ref b :: dm_sm base ext As' ∧ As.length = As'.length + 1 ∧ ∃ cellB : Cell, H[b]? = some cellB ∧ cellB.vm.isStatics = false ∧ s.vm.findClass row.1.cls = some cellB.cls := by
              unfold dm_rcv at hr9
              split at hr9
              · rename_i q As'
                have hq := of_decide_eq_true hr9
                rw [if_neg (by decide)] at hcls
                split at hcls
                · rename_i h99
                  subst h99
                  exfalso
                  have hK9 := hA.1.1 _ _ (dm_ws_at (base := base) (ext := ext) (cA := cA) hq)
                  obtain ⟨r9, h19, -⟩ := hK9
                  simp at h19
                · split at hcls
                  · rename_i q9 hq9
                    simp only [Bool.and_eq_true, decide_eq_true_eq] at hcls
                    refine ⟨base + q, As', rfl, rfl, ?_⟩
                    rw [← hcls.1]
                    exact va_recv hK.2.1 hA.1.1 hq9 (dm_ws_at (base := base) (ext := ext) (cA := cA) hq)
                  · cases hcls
              · rename_i j As'
                have hq := of_decide_eq_true hr9
                obtain ⟨rfl, h99⟩ := hq
                rw [if_neg (by decide), if_pos (by omega)] at hcls
                have hcls := of_decide_eq_true hcls
                refine ⟨ext 300, As', rfl, rfl, ?_⟩
                rw [hcls.2]
                obtain ⟨cell, h1, h2, h3, -⟩ := hK.2.2.2.1.2.2.2.2.2.2.1.kept hA.2.1.2.1
                exact ⟨cell, h1, h2, h3⟩
              · cases hr9
            obtain ⟨hlen9, hrecv⟩ := hrecv
            have hn9 : (dm_sm base ext As').length = As'.length := List.length_map _
            have hp9 := hparN As'.length (by rw [if_neg (by decide)]; omega)
            have hstk2 : dm_sm base ext st = (dm_sm base ext As').reverse ++ .ref b :: dm_sm base ext rest := by
              rw [hstk, eAs, List.reverse_cons, List.append_assoc]; rfl
            have hpre : ∀ U : State, U.heap = H → s.WarmedH U.vm → dm_Pc S base D ext σ As (Value.ref b :: dm_sm base ext As').toArray U := by
              intro U hU hW
              rw [← eAs]
              exact dm_pre Cx hA hz U hU hW
            rcases hlinkOr with hl | hl
            · exact fin (va_runV (C := row.1.cls) (n := As'.length) ⟨hx, hb, hml, hown, hts⟩ hM ⟨callB_of As'.length hts (dm_good hcode) rfl rfl rfl (hts _ hinit) hl ⟨hmh.1, hmh.2, hp9⟩ hroom, hts _ hinst, hts _ hsel⟩ ⟨dm_blind, hrecv, hpre⟩ rfl hn9 hA.2.2.1.1 hstk2 hwt2 hdec3 hfit)
            · exact fin (va_runVN (C := row.1.cls) (n := As'.length) ⟨hx, hb, hml, hown, hts⟩ hM ⟨va_cnB As'.length hts (dm_good hcode) rfl rfl rfl hl (hts _ hinit) ⟨hmh.1, hmh.2, hp9⟩ hroom, hts _ hinst, hts _ hsel⟩ ⟨dm_blind, hrecv, hpre⟩ rfl hn9 hA.2.2.1.1 hstk2 hwt2 hdec3 hfit)
          · -- static
            have hns : mi.toNat ∈ dm_stat := hst9.mpr rfl
            have hkind := hkS hns
            have hn9 : (dm_sm base ext As).length = As.length := List.length_map _
            have hp9 := hparN As.length (by rw [if_pos rfl]; omega)
            rcases hlinkOr with hl | hl
            · exact fin (va_runS (n := As.length) ⟨hx, hb, hml, hown, hts⟩ hM ⟨callB_of As.length hts (dm_good hcode) rfl rfl rfl (hts _ hinit) hl ⟨hmh.1, hmh.2, hp9⟩ hroom, hts _ hkind⟩ ⟨dm_blind, fun U hU hW => dm_pre Cx hA hz U hU hW⟩ rfl hn9 hA.2.2.1.1 hstk hwt2 hdec3 hfit)
            · exact fin (va_runSN (n := As.length) ⟨hx, hb, hml, hown, hts⟩ hM ⟨va_cnB As.length hts (dm_good hcode) rfl rfl rfl hl (hts _ hinit) ⟨hmh.1, hmh.2, hp9⟩ hroom, hts _ hkind, trivial⟩ ⟨dm_blind, fun U hU hW => dm_pre Cx hA hz U hU hW⟩ rfl hn9 hA.2.2.1.1 hstk hwt2 hdec3 hfit)
          · -- special
            have hns : ¬ mi.toNat ∈ dm_stat := fun z => absurd (hst9.mp z) (by decide)
            obtain ⟨hinst, -⟩ := hkI hns
            have hr9 : dm_rcv σ ci.toNat As = true := hrcv.resolve_left (by decide)
            rw [if_neg (by decide)] at hcls
            split at hcls
            · rename_i h99
              exact absurd (of_decide_eq_true hcls).1 (by decide)
            · split at hcls
              · rename_i q9 hq9
                rw [if_pos rfl] at hcls
                simp only [Bool.and_eq_true, decide_eq_true_eq] at hcls
                obtain ⟨-, hname, hret⟩ := hcls
                obtain ⟨b, As', eAs, hlen9⟩ : ∃ (b : Nat) (As' : List Value), dm_sm base ext As = .ref b :: dm_sm base ext As' ∧ As.length = As'.length + 1 := by
                  unfold dm_rcv at hr9
                  split at hr9
                  · rename_i q As'
                    exact ⟨base + q, As', rfl, rfl⟩
                  · rename_i j As'
                    exact ⟨ext j, As', rfl, rfl⟩
                  · cases hr9
                have hn9 : (dm_sm base ext As').length = As'.length := List.length_map _
                have hp9 := hparN As'.length (by rw [if_neg (by decide)]; omega)
                have hstk2 : dm_sm base ext st = (dm_sm base ext As').reverse ++ .ref b :: dm_sm base ext rest := by
                  rw [hstk, eAs, List.reverse_cons, List.append_assoc]; rfl
                have hpre : ∀ U : State, U.heap = H → s.WarmedH U.vm → dm_Pc S base D ext σ As (Value.ref b :: dm_sm base ext As').toArray U := by
                  intro U hU hW
                  rw [← eAs]
                  exact dm_pre Cx hA hz U hU hW
                have hw9 : dm_wU row = Cond.code row.1 row.2.1 row.2.2.1 none :: dm_GW := by unfold dm_wU; rw [hret]
                rcases hlinkOr with hl | hl
                · exact fin (va_runI (n := As'.length) ⟨hx, hb, hml, hown, hts⟩ hM ⟨callB_of As'.length hts (dm_good hcode) hw9 rfl rfl (hts _ hinit) hl ⟨hmh.1, hmh.2, hp9⟩ hroom, hname, hts _ hinst⟩ ⟨dm_blind, hpre⟩ rfl hn9 hA.2.2.1.1 hstk2 hwt2 hdec3 hfit)
                · exact fin (va_runIN (n := As'.length) ⟨hx, hb, hml, hown, hts⟩ hM ⟨va_cnB As'.length hts (dm_good hcode) hw9 rfl rfl hl (hts _ hinit) ⟨hmh.1, hmh.2, hp9⟩ hroom, hname, hts _ hinst⟩ ⟨dm_blind, hpre⟩ rfl hn9 hA.2.2.1.1 hstk2 hwt2 hdec3 hfit)
              · cases hcls
        · rename_i hrow
          exfalso
          cases d with
          | zero => simp [dm_run] at hrun
          | succ d => simp [dm_run, hrow] at hrun
      · cases h
    · cases h
  · -- Object's own
    rename_i w
    split at h
    · rename_i q st1
      split at h
      · rename_i hwt
        cases h
        simp only [dm_okC, Bool.and_eq_true, decide_eq_true_eq] at hokC
        obtain ⟨rfl, hlk⟩ := hokC
        rcases hkd with ⟨h9, -⟩ | ⟨h9, -⟩ | ⟨-, rfl⟩
        · cases h9
        · cases h9
        · have hR1 : 1 ≤ R.frames ∧ 64 ≤ R.locals := by omega
          refine W.objInit hx hb hown (dm_tb hts hlk rfl) (hts _ dm_objw.1) (hts _ dm_objw.2) rfl (hA.2.2.1.1.trans hml.symm) rfl hdec3 hR1.1 ?_ (kk cA H locs cells slots lsA hA)
          have h8 : 2 * (F0 m pc lsA (dm_sm base ext (.ref q :: st'))).monitorRoom + ((dm_sm base ext st').map fun v => v.category).sum ≤ 8 := lv_room (dm_wait_sum hwt)
          have h9 : 2 * (F0 m pc lsA (dm_sm base ext (.ref q :: st'))).monitorRoom + ((dm_sm base ext st').map fun v => v.category).sum + 12 ≤ R.locals := by omega
          exact h9
      · cases h
    · cases h
  · -- arraycopy
    rename_i w
    simp only [dm_okC, Bool.and_eq_true, decide_eq_true_eq] at hokC
    obtain ⟨rfl, hlk⟩ := hokC
    rcases hkd with ⟨h9, -⟩ | ⟨-, rfl⟩ | ⟨h9, -⟩
    · cases h9
    · have hR1 : 1 ≤ R.frames ∧ 64 ≤ R.locals := by omega
      exact dm_g_acopy Cx hR1.1 hR1.2 hlk hdec3 h kk cA H locs cells slots lsA hA
    · cases h9
  · -- Math.max
    rename_i w
    simp only [dm_okC, Bool.and_eq_true, decide_eq_true_eq] at hokC
    obtain ⟨rfl, hlk⟩ := hokC
    rcases hkd with ⟨h9, -⟩ | ⟨-, rfl⟩ | ⟨h9, -⟩
    · cases h9
    · have hR1 : 1 ≤ R.frames ∧ 64 ≤ R.locals := by omega
      split at h
      · split at h
        · rename_i hwt
          cases h
          have h8 := dm_wait_sum (base := base) (ext := ext) hwt
          exact va_mmax hx hb (hml.trans hA.2.2.1.1.symm) hown (dm_tb hts hlk rfl) (hts _ dm_mathw.1.1) (hts _ dm_mathw.2.2) (hts _ dm_mathw.1.2) hR1.1 (Nat.le_trans (Nat.add_le_add_right h8 13) (Nat.le_trans (by decide) hR1.2)) (by omega) (by omega) hdec3 (kk cA H locs cells slots lsA hA)
        · cases h
      · cases h
    · cases h9
  · -- Math.min
    rename_i w
    simp only [dm_okC, Bool.and_eq_true, decide_eq_true_eq] at hokC
    obtain ⟨rfl, hlk⟩ := hokC
    rcases hkd with ⟨h9, -⟩ | ⟨-, rfl⟩ | ⟨h9, -⟩
    · cases h9
    · have hR1 : 1 ≤ R.frames ∧ 64 ≤ R.locals := by omega
      split at h
      · split at h
        · rename_i hwt
          cases h
          have h8 := dm_wait_sum (base := base) (ext := ext) hwt
          exact va_mmin hx hb (hml.trans hA.2.2.1.1.symm) hown (dm_tb hts hlk rfl) (hts _ dm_mathw.2.1.1) (hts _ dm_mathw.2.2) (hts _ dm_mathw.2.1.2) hR1.1 (Nat.le_trans (Nat.add_le_add_right h8 13) (Nat.le_trans (by decide) hR1.2)) (by omega) (by omega) hdec3 (kk cA H locs cells slots lsA hA)
        · cases h
      · cases h
    · cases h9
  · cases h
end DMCG
