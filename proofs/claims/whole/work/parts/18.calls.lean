/-! CALLS, and a method's contract out of its pure run. -/
def dm_rm (d mc ms : Nat) : Room := { frames := d + 1, cells := mc, slots := ms, locals := 64 * (d + 1) }
def dm_wU (row : dm_Row) : List Cond := Cond.code row.1 row.2.1 row.2.2.1 row.2.2.2.1 :: dm_GW
/-- what is checked of a method of the table -/
def dm_RP (mi : Nat) (row : dm_Row) : Prop := Cond.code row.1 row.2.1 row.2.2.1 row.2.2.2.1 ∈ dm_GW ∧ Cond.initialized row.1.cls ∈ dm_GW ∧ plainName row.1.cls = true ∧ row.2.2.2.2.1 = row.1.cls ∧ (row.1.cls ≠ "java/lang/invoke/MethodHandle" ∧ row.1.cls ≠ "java/lang/invoke/VarHandle") ∧ Nat.ble row.2.2.1 45 = true ∧ row.2.2.2.2.2.all (dm_okT row.2.2.1) = true
  ∧ (mi ∈ dm_stat → Cond.static row.1 ∈ dm_GW) ∧ (¬ mi ∈ dm_stat → Cond.instanceMethod row.1 ∈ dm_GW ∧ (row.1.name = "<init>" ∨ Cond.selects row.1.cls row.1 row.1 ∈ dm_GW))
def dm_pk (c : Nat) : List (MethodName × Nat) := match c with
  | 0 => lw_privs_1 | 1 => lw_privs_2 | 2 => lw_privs_3 | 3 => lw_privs_4 | 4 => lw_privs_5 | 5 => lw_privs_6 | 6 => lw_privs_7 | _ => []
theorem dm_pk_mem {c : Nat} {x : MethodName × Nat} (h : x ∈ dm_pk c) : x ∈ lw_privs := by
  unfold lw_privs
  unfold dm_pk at h
  simp only [List.mem_append]
  split at h
  · exact Or.inl h
  · exact Or.inr (Or.inl h)
  · exact Or.inr (Or.inr (Or.inl h))
  · exact Or.inr (Or.inr (Or.inr (Or.inl h)))
  · exact Or.inr (Or.inr (Or.inr (Or.inr (Or.inl h))))
  · exact Or.inr (Or.inr (Or.inr (Or.inr (Or.inr (Or.inl h)))))
  · exact Or.inr (Or.inr (Or.inr (Or.inr (Or.inr (Or.inr h)))))
  · exact absurd h List.not_mem_nil
/-- a word by its place: of the tables, or (from 100000 on) 'selects' of a private method -/
def dm_lx (w : Nat) : Option Cond := if w < 100000 then dm_tx w else ((dm_pk ((w - 100000) / 100))[(w - 100000) % 100]?).map (fun q => Cond.selects q.1.cls q.1 q.1)
theorem dm_lx_mem {w : Nat} {x : Cond} (h : dm_lx w = some x) : x ∈ lw_tbl := by
  unfold dm_lx at h
  split at h
  · exact List.mem_append_right _ (dm_tx_mem h)
  · refine List.mem_append_left _ ?_
    cases hq : (dm_pk ((w - 100000) / 100))[(w - 100000) % 100]? with
    | none => rw [hq] at h; cases h
    | some q =>
      rw [hq] at h
      cases h
      exact List.mem_map.mpr ⟨q, dm_pk_mem (List.mem_of_getElem? hq), rfl⟩
def dm_okX (mi : Nat) (row : dm_Row) (ic ii ik is : Nat) : Bool := decide (dm_lx ic = some (Cond.code row.1 row.2.1 row.2.2.1 row.2.2.2.1)) && (decide (dm_lx ii = some (Cond.initialized row.1.cls)) && (plainName row.1.cls && (decide (row.2.2.2.2.1 = row.1.cls) && (decide (row.1.cls ≠ "java/lang/invoke/MethodHandle" ∧ row.1.cls ≠ "java/lang/invoke/VarHandle") && (Nat.ble row.2.2.1 45 && (row.2.2.2.2.2.all (dm_okT row.2.2.1)
  && (if mi ∈ dm_stat then decide (dm_lx ik = some (Cond.static row.1)) else decide (dm_lx ik = some (Cond.instanceMethod row.1)) && (decide (row.1.name = "<init>") || decide (dm_lx is = some (Cond.selects row.1.cls row.1 row.1))))))))))
theorem dm_GWof {i : Nat} {w : Cond} (h : dm_lx i = some w) (hg : goodWord w = true) : w ∈ dm_GW := List.mem_filter.mpr ⟨dm_lx_mem h, hg⟩
theorem dm_RPof {mi : Nat} {row : dm_Row} (ic ii ik is : Nat) (h : dm_okX mi row ic ii ik is = true) : dm_RP mi row := by
  simp only [dm_okX, Bool.and_eq_true] at h
  obtain ⟨h1, h2, h3, h4, h5, h6, h7, h8⟩ := h
  refine ⟨dm_GWof (of_decide_eq_true h1) rfl, dm_GWof (of_decide_eq_true h2) rfl, h3, of_decide_eq_true h4, of_decide_eq_true h5, h6, h7, fun hs => ?_, fun hs => ?_⟩
  · rw [if_pos hs] at h8
    exact dm_GWof (of_decide_eq_true h8) rfl
  · rw [if_neg hs] at h8
    simp only [Bool.and_eq_true, Bool.or_eq_true] at h8
    refine ⟨dm_GWof (of_decide_eq_true h8.1) rfl, ?_⟩
    rcases h8.2 with h9 | h9
    · exact Or.inl (of_decide_eq_true h9)
    · exact Or.inr (dm_GWof (of_decide_eq_true h9) rfl)
def dm_RowOK (mi : Nat) (row : dm_Row) : Prop := dm_okM row.2.2.2.2.1 row.2.1 (decide (row.1.name = "<init>")) row.2.2.2.2.2 = true ∧ dm_RP mi row
section DMC
variable {p : Program} {l : Launch} {e : Env} {R : Room} {s : State} {m : MethodId} {args : Array Value} {below : List Frame} {meth : Method} {c : Code} {H : Heap} {locs : List Loc} {cells slots : Nat} {Q : State → Prop}
variable {cc : ByteArray} {own : String} {nL : Nat} {S : dm_Sc} {base : Nat} {D : va_G} {ext : Nat → Nat} {cA : Nat → ClassId} {σ σ' : dm_St} {ls ls' : dm_Lv} {st st' : List Value} {lsA : Array Slot} {pc c0 s0 : Nat}
def dm_Pc (S : dm_Sc) (base : Nat) (D : va_G) (ext : Nat → Nat) (σ : dm_St) (as : List Value) : Array Value → State → Prop := va_Pc (dm_sm base ext as) (fun U => dm_K S base D ext U U.heap ∧ (∃ cA, dm_Wd base D ext cA σ U U.heap) ∧ U.heap.size ≤ base + dm_cost σ)
def dm_Qa (base : Nat) (D : va_G) (ext : Nat → Nat) (r : Option Value) (σ' : dm_St) : State → Outcome → State → Prop := fun st oc t => oc = .returned (r.map (dm_cv base ext)) ∧ (∃ cA, dm_Wd base D ext cA σ' t t.heap) ∧ va_F (dm_A base) st t
def dm_Qc (base : Nat) (D : va_G) (ext : Nat → Nat) (r : Option Value) (σ' : dm_St) : Array Value → State → Outcome → State → Prop := fun _ => dm_Qa base D ext r σ'
theorem dm_blind {as : List Value} : FrameBlind (dm_Pc S base D ext σ as) := by
  intro a U g mk h
  obtain ⟨h1, h2, ⟨cA, h3⟩, h4⟩ := h
  exact ⟨h1, dm_K.same (u := U) rfl h2, ⟨cA, dm_Wd.moved (u := U) (Vm.Alike.refl U.vm) h3⟩, h4⟩
/-- behind a call -/
theorem dm_callGo {mc ms : Nat} {st0 rest : List Value} {r : Option Value} (hr : va_Run p l e R s m args below meth c H locs cells slots mc ms (F0 m pc lsA st0) rest (dm_Qa base D ext r σ') (dm_A base)) (hS : va_S (dm_A base) s.heap H locs)
    (kk : ∀ (cA : Nat → ClassId) (H1 : Heap) (locs1 : List Loc), dm_Wd base D ext cA σ' s H1 → va_S (dm_A base) s.heap H1 locs1 → W p l e R s m args below meth c H1 locs1 (cells + mc) (slots + ms) Q (F0 m (pc + 3) lsA ((r.map (dm_cv base ext)).toList ++ rest))) : W p l e R s m args below meth c H locs cells slots Q (F0 m pc lsA st0) := by
  intro T hT X
  obtain ⟨v, st₀, t, T', L, h0, X', hL, e1, e2, ⟨hv, ⟨cA, hW⟩, hz, hk⟩, goes⟩ := hr T hT X
  cases hv
  rw [h0] at hz hk
  have ha : t.vm.Alike s.vm := by rw [← e2]; exact X'.warmed.alike.symm
  obtain ⟨t2, a1, b1⟩ := kk cA T'.heap (locs ++ L) (by rw [e1]; exact hW.moved ha)
    ⟨Nat.le_trans hS.1 (by rw [e1]; exact hz), fun q h1 h2 => by rw [e1, hk q (Nat.lt_of_lt_of_le h1 hS.1) h2]; exact hS.2.1 q h1 h2, fun q hq => by
      rcases List.mem_append.mp hq with h | h
      · exact hS.2.2 q h
      · exact hL q h⟩ T' rfl X'
  exact ⟨t2, goes t2 a1, b1⟩
theorem dm_good {row : dm_Row} (h : Cond.code row.1 row.2.1 row.2.2.1 row.2.2.2.1 ∈ dm_GW) : GoodIn dm_GW (dm_wU row) := by
  intro w hw
  have hm : w ∈ dm_GW := by
    rcases List.mem_cons.mp hw with rfl | hw
    · exact h
    · exact hw
  exact ⟨hm, good_of_word (List.mem_filter.mp hm).2⟩
theorem dm_pre {as : List Value} (Cx : dm_Cx p s m args c cc own nL S base D ext c0) (hA : dm_At s nL base D ext c0 s0 cA σ ls H locs cells slots lsA) (hz : H.size ≤ s.heap.size + cells) (U : State) (hU : U.heap = H) (hW : s.WarmedH U.vm) : dm_Pc S base D ext σ as (dm_sm base ext as).toArray U := by
  obtain ⟨hx, hb, hml, hown, hts, hK, hsz⟩ := Cx
  refine ⟨rfl, ?_, ⟨cA, ?_⟩, ?_⟩
  · rw [hU]
    exact (hK.kept hA.2.1.1 (fun a h1 h2 => hA.2.1.2.1 a h1 h2)).warm hW
  · rw [hU]
    exact hA.1.moved hW.alike
  · rw [hU]
    have := hA.2.2.2.1
    omega
theorem dm_room {row : dm_Row} {d mc ms : Nat} (h : Nat.ble row.2.2.1 45 = true) (hR : (dm_rm (d + 1) R.cells R.slots) = R) : (dm_rm d mc ms).frames + 1 ≤ R.frames ∧ 8 + (row.2.2.1 + 11) + (dm_rm d mc ms).locals ≤ R.locals := by
  have h1 := Nat.le_of_ble_eq_true h
  rw [← hR]
  simp only [dm_rm]
  omega
theorem dm_take {na : Nat} (h : na ≤ st.length) : st = ((st.take na).reverse).reverse ++ st.drop na ∧ ((st.take na).reverse).length = na := by
  rw [List.reverse_reverse, List.take_append_drop, List.length_reverse, List.length_take]
  exact ⟨rfl, Nat.min_eq_left h⟩
theorem dm_sm_app (a b : List Value) : dm_sm base ext (a ++ b) = dm_sm base ext a ++ dm_sm base ext b := List.map_append
theorem dm_sm_rev (a : List Value) : dm_sm base ext a.reverse = (dm_sm base ext a).reverse := List.map_reverse
theorem dm_lkM {ix : Nat} {y : MethodName} {host : String} {ns w : Int} (hts : ∀ w ∈ dm_GW, w.before args s = true) (hN : ∀ w ∈ dm_nw, va_Nw w s) (h : dm_lk ns w (.methodLink own ix y) (.methodLinkNest own ix y host) = true) :
    (Cond.methodLink own ix y).before args s = true ∨ va_Nw (.methodLinkNest own ix y host) s := by
  unfold dm_lk at h
  split at h
  · exact Or.inl (dm_tb hts (of_decide_eq_true h) rfl)
  · exact Or.inr (hN _ (List.mem_of_getElem? (of_decide_eq_true h)))
theorem dm_objw : Cond.instanceMethod objectInit ∈ dm_GW ∧ Cond.code objectInit ⟨#[0xb1]⟩ 1 none ∈ dm_GW := by decide +kernel
theorem dm_mathw : (Cond.static Lib.Math.max.name ∈ dm_GW ∧ Cond.code Lib.Math.max.name Lib.Math.max.code 2 (some .int) ∈ dm_GW) ∧ (Cond.static Lib.Math.min.name ∈ dm_GW ∧ Cond.code Lib.Math.min.name Lib.Math.min.code 2 (some .int) ∈ dm_GW) ∧ Cond.initialized "java/lang/Math" ∈ dm_GW := by decide +kernel
/-- a call of a method of the table -/
theorem dm_g_inv {d n : Nat} {i : Instr} {len : Nat} {aux : List Int} {init : Bool} (Cx : dm_Cx p s m args c cc own nL S base D ext c0) (hR : dm_rm (d + 1) R.cells R.slots = R) (hrows : ∀ mi row, dm_tab mi = some row → dm_RowOK mi row)
    (hmet : ∀ (mi : Nat) (row : dm_Row) (as : List Value) (σ : dm_St) (r : Option Value) (σ' : dm_St), dm_tab mi = some row → dm_run S dm_tab d n mi as σ = some (r, σ') → Met l row.1 (dm_wU row) (dm_rm d (dm_cost σ' - dm_cost σ) (dm_slo σ' - dm_slo σ)) (dm_Pc S base D ext σ as) (dm_Qc base D ext r σ') (dm_cost σ' - dm_cost σ) (dm_slo σ' - dm_slo σ) (dm_A base))
    (hi : (∃ x, i = .invokevirtual x) ∨ (∃ x, i = .invokestatic x) ∨ ∃ x, i = .invokespecial x) (hok : dm_okI own cc init (pc, i, len, aux) = true) (h : dm_inv (dm_run S dm_tab d n) aux ls st σ = some (ls', st', σ')) (hRc : dm_cost σ' ≤ c0 + R.cells) (hRs : dm_slo σ' ≤ s0 + R.slots) (kk : dm_Go p l e R s m args below meth c Q nL base D ext c0 s0 (pc + 3) ls' st' σ') : dm_Go p l e R s m args below meth c Q nL base D ext c0 s0 pc ls st σ := by
  intro cA H locs cells slots lsA hA
  refine dm_Wsz (fun hz => ?_)
  obtain ⟨hx, hb, hml, hown, hts, hK, hsz⟩ := id Cx
  simp only [dm_okI, Bool.and_eq_true] at hok
  obtain ⟨hdec0, hlen, hrest⟩ := hok
  have hdec : decode cc pc = .ok (i, len) := of_decide_eq_true hdec0
  clear hdec0
  obtain ⟨kd, ix, hkd, hlen3, hokC, hdec3⟩ : ∃ (kd : Int) (ix : Nat), ((kd = 0 ∧ i = .invokevirtual ix) ∨ (kd = 1 ∧ i = .invokestatic ix) ∨ (kd = 2 ∧ i = .invokespecial ix)) ∧ len = 3 ∧ dm_okC own ix kd aux = true ∧ decode cc pc = .ok (i, 3) := by
    rcases hi with ⟨x, rfl⟩ | ⟨x, rfl⟩ | ⟨x, rfl⟩
    · obtain rfl : len = 3 := of_decide_eq_true hlen
      exact ⟨0, x, Or.inl ⟨rfl, rfl⟩, rfl, hrest, hdec⟩
    · obtain rfl : len = 3 := of_decide_eq_true hlen
      exact ⟨1, x, Or.inr (Or.inl ⟨rfl, rfl⟩), rfl, hrest, hdec⟩
    · obtain rfl : len = 3 := of_decide_eq_true hlen
      exact ⟨2, x, Or.inr (Or.inr ⟨rfl, rfl⟩), rfl, hrest, hdec⟩
  clear hrest hlen hdec
  have hcA := hA.2.2.2.1
  have hsA := hA.2.2.2.2
  unfold dm_inv at h
  split at h
  · rename_i kd' mi na ci tl
    dsimp only at h
    split at h
    · rename_i hc
      obtain ⟨hna, hwt, hrcv⟩ := hc
      split at h
      · rename_i r σ1 hrun
        cases h
        have hle := dm_run_le d mi.toNat _ σ r σ' hrun
        obtain ⟨ns, w, rfl⟩ : ∃ ns w, tl = [ns, w] := by
          match tl, hokC with
          | [ns, w], _ => exact ⟨ns, w, rfl⟩
          | [], h => cases h
          | [a], h => cases h
          | a :: b :: c :: t, h => cases h
        simp only [dm_okC, Bool.and_eq_true, decide_eq_true_eq] at hokC
        obtain ⟨rfl, hokC⟩ := hokC
        split at hokC
        · rename_i row hrow
          simp only [Bool.and_eq_true, decide_eq_true_eq] at hokC
          obtain ⟨hst9, hni, hlk, hpar, hcls⟩ := hokC
          obtain ⟨hokM, hokR⟩ := hrows _ _ hrow
          obtain ⟨hcode, hinit, hplain, hownR, hmh, hmax, hT, hkS, hkI⟩ := hokR
          have hM := hmet mi.toNat row _ σ r σ' hrow hrun
          obtain ⟨est, elen⟩ := dm_take (st := st) hna
          generalize hAs : (st.take na.toNat).reverse = As at *
          generalize hRs9 : st.drop na.toNat = rest at *
          have hroom := dm_room (row := row) (d := d) (mc := dm_cost σ' - dm_cost σ) (ms := dm_slo σ' - dm_slo σ) hmax hR
          have hfit : cells + (dm_cost σ' - dm_cost σ) ≤ R.cells ∧ slots + (dm_slo σ' - dm_slo σ) ≤ R.slots := by
            have := hle.1
            have := hle.2
            omega
          have hlinkOr := dm_lkM hts hK.2.2.1 hlk
          have fin : ∀ {st0 : List Value} {Ar : Array Value}, va_Run p l e R s m args below meth c H locs cells slots (dm_cost σ' - dm_cost σ) (dm_slo σ' - dm_slo σ) (F0 m pc lsA st0) (dm_sm base ext rest) (dm_Qc base D ext r σ' Ar) (dm_A base) → W p l e R s m args below meth c H locs cells slots Q (F0 m pc lsA st0) := by
            intro st0 Ar hr
            refine dm_callGo (r := r) hr hA.2.1 (fun cA1 H1 locs1 hW1 hS1 => ?_)
            have h9 := kk cA1 H1 locs1 (cells + (dm_cost σ' - dm_cost σ)) (slots + (dm_slo σ' - dm_slo σ)) lsA ⟨hW1, hS1, hA.2.2.1, by have := hle.1; omega, by have := hle.2; omega⟩
            rw [dm_sm_app] at h9
            have e9 : dm_sm base ext r.toList = (r.map (dm_cv base ext)).toList := by cases r <;> rfl
            rw [e9] at h9
            exact h9
          have hstk : dm_sm base ext st = (dm_sm base ext As).reverse ++ dm_sm base ext rest := by rw [est, dm_sm_app, dm_sm_rev]
          have hwt2 : 2 * (F0 m pc lsA (dm_sm base ext st)).monitorRoom + ((dm_sm base ext rest).map fun v => v.category).sum ≤ 8 := lv_room (dm_wait_sum hwt)
          have hparN : ∀ n9 : Nat, na.toNat = n9 + (if kd' = 1 then 0 else 1) → (parseMethodDescriptor row.1.desc).map (fun d => d.parameters.length) = some n9 := by
            intro n9 hn9
            cases hp : parseMethodDescriptor row.1.desc with
            | none => rw [hp] at hpar; cases hpar
            | some d9 =>
              rw [hp] at hpar
              simp only [Option.map_some, Option.some.injEq] at hpar ⊢
              omega
          rcases hkd with ⟨rfl, rfl⟩ | ⟨rfl, rfl⟩ | ⟨rfl, rfl⟩
          · -- virtual
            have hns : ¬ mi.toNat ∈ dm_stat := fun z => absurd (hst9.mp z) (by decide)
            obtain ⟨hinst, hsel⟩ := hkI hns
            have hsel : Cond.selects row.1.cls row.1 row.1 ∈ dm_GW := hsel.resolve_left (hni rfl)
            have hr9 : dm_rcv σ ci.toNat As = true := hrcv.resolve_left (by decide)
            obtain ⟨b, As', eAs, hrecv⟩ : ∃ (b : Nat) (As' : List Value), dm_sm base ext As = .ref b :: dm_sm base ext As' ∧ As.length = As'.length + 1 ∧ ∃ cellB : Cell, H[b]? = some cellB ∧ cellB.vm.isStatics = false ∧ s.vm.findClass row.1.cls = some cellB.cls := by
              unfold dm_rcv at hr9
              split at hr9
              · rename_i q As'
                have hq := of_decide_eq_true hr9
                rw [if_neg (by decide)] at hcls
                split at hcls
                · rename_i h99
                  subst h99
                  exfalso
                  have hK9 := hA.1.1 _ _ (dm_ws_at (base := base) (ext := ext) (cA := cA) hq)
                  obtain ⟨r9, h19, -⟩ := hK9
                  simp at h19
                · split at hcls
                  · rename_i q9 hq9
                    simp only [Bool.and_eq_true, decide_eq_true_eq] at hcls
                    refine ⟨base + q, As', rfl, rfl, ?_⟩
                    rw [← hcls.1]
                    exact va_recv hK.2.1 hA.1.1 hq9 (dm_ws_at (base := base) (ext := ext) (cA := cA) hq)
                  · cases hcls
              · rename_i j As'
                have hq := of_decide_eq_true hr9
                obtain ⟨rfl, h99⟩ := hq
                rw [if_neg (by decide), if_pos (by omega)] at hcls
                have hcls := of_decide_eq_true hcls
                refine ⟨ext 300, As', rfl, rfl, ?_⟩
                rw [hcls.2]
                obtain ⟨cell, h1, h2, h3, -⟩ := hK.2.2.2.1.2.2.2.2.2.2.1.kept hA.2.1.2.1
                exact ⟨cell, h1, h2, h3⟩
              · cases hr9
            obtain ⟨hlen9, hrecv⟩ := hrecv
            have hn9 : (dm_sm base ext As').length = As'.length := List.length_map _
            have hp9 := hparN As'.length (by rw [if_neg (by decide)]; omega)
            have hstk2 : dm_sm base ext st = (dm_sm base ext As').reverse ++ .ref b :: dm_sm base ext rest := by
              rw [hstk, eAs, List.reverse_cons, List.append_assoc]; rfl
            have hpre : ∀ U : State, U.heap = H → s.WarmedH U.vm → dm_Pc S base D ext σ As (Value.ref b :: dm_sm base ext As').toArray U := by
              intro U hU hW
              rw [← eAs]
              exact dm_pre Cx hA hz U hU hW
            rcases hlinkOr with hl | hl
            · exact fin (va_runV (C := row.1.cls) (n := As'.length) ⟨hx, hb, hml, hown, hts⟩ hM ⟨callB_of As'.length hts (dm_good hcode) rfl rfl rfl (hts _ hinit) hl ⟨hmh.1, hmh.2, hp9⟩ hroom, hts _ hinst, hts _ hsel⟩ ⟨dm_blind, hrecv, hpre⟩ rfl hn9 hA.2.2.1.1 hstk2 hwt2 hdec3 hfit)
            · exact fin (va_runVN (C := row.1.cls) (n := As'.length) ⟨hx, hb, hml, hown, hts⟩ hM ⟨va_cnB As'.length hts (dm_good hcode) rfl rfl rfl hl (hts _ hinit) ⟨hmh.1, hmh.2, hp9⟩ hroom, hts _ hinst, hts _ hsel⟩ ⟨dm_blind, hrecv, hpre⟩ rfl hn9 hA.2.2.1.1 hstk2 hwt2 hdec3 hfit)
          · -- static
            have hns : mi.toNat ∈ dm_stat := hst9.mpr rfl
            have hkind := hkS hns
            have hn9 : (dm_sm base ext As).length = As.length := List.length_map _
            have hp9 := hparN As.length (by rw [if_pos rfl]; omega)
            rcases hlinkOr with hl | hl
            · exact fin (va_runS (n := As.length) ⟨hx, hb, hml, hown, hts⟩ hM ⟨callB_of As.length hts (dm_good hcode) rfl rfl rfl (hts _ hinit) hl ⟨hmh.1, hmh.2, hp9⟩ hroom, hts _ hkind⟩ ⟨dm_blind, fun U hU hW => dm_pre Cx hA hz U hU hW⟩ rfl hn9 hA.2.2.1.1 hstk hwt2 hdec3 hfit)
            · exact fin (va_runSN (n := As.length) ⟨hx, hb, hml, hown, hts⟩ hM ⟨va_cnB As.length hts (dm_good hcode) rfl rfl rfl hl (hts _ hinit) ⟨hmh.1, hmh.2, hp9⟩ hroom, hts _ hkind, trivial⟩ ⟨dm_blind, fun U hU hW => dm_pre Cx hA hz U hU hW⟩ rfl hn9 hA.2.2.1.1 hstk hwt2 hdec3 hfit)
          · -- special
            have hns : ¬ mi.toNat ∈ dm_stat := fun z => absurd (hst9.mp z) (by decide)
            obtain ⟨hinst, -⟩ := hkI hns
            have hr9 : dm_rcv σ ci.toNat As = true := hrcv.resolve_left (by decide)
            rw [if_neg (by decide)] at hcls
            split at hcls
            · rename_i h99
              exact absurd (of_decide_eq_true hcls).1 (by decide)
            · split at hcls
              · rename_i q9 hq9
                rw [if_pos rfl] at hcls
                simp only [Bool.and_eq_true, decide_eq_true_eq] at hcls
                obtain ⟨-, hname, hret⟩ := hcls
                obtain ⟨b, As', eAs, hlen9⟩ : ∃ (b : Nat) (As' : List Value), dm_sm base ext As = .ref b :: dm_sm base ext As' ∧ As.length = As'.length + 1 := by
                  unfold dm_rcv at hr9
                  split at hr9
                  · rename_i q As'
                    exact ⟨base + q, As', rfl, rfl⟩
                  · rename_i j As'
                    exact ⟨ext j, As', rfl, rfl⟩
                  · cases hr9
                have hn9 : (dm_sm base ext As').length = As'.length := List.length_map _
                have hp9 := hparN As'.length (by rw [if_neg (by decide)]; omega)
                have hstk2 : dm_sm base ext st = (dm_sm base ext As').reverse ++ .ref b :: dm_sm base ext rest := by
                  rw [hstk, eAs, List.reverse_cons, List.append_assoc]; rfl
                have hpre : ∀ U : State, U.heap = H → s.WarmedH U.vm → dm_Pc S base D ext σ As (Value.ref b :: dm_sm base ext As').toArray U := by
                  intro U hU hW
                  rw [← eAs]
                  exact dm_pre Cx hA hz U hU hW
                have hw9 : dm_wU row = Cond.code row.1 row.2.1 row.2.2.1 none :: dm_GW := by unfold dm_wU; rw [hret]
                rcases hlinkOr with hl | hl
                · exact fin (va_runI (n := As'.length) ⟨hx, hb, hml, hown, hts⟩ hM ⟨callB_of As'.length hts (dm_good hcode) hw9 rfl rfl (hts _ hinit) hl ⟨hmh.1, hmh.2, hp9⟩ hroom, hname, hts _ hinst⟩ ⟨dm_blind, hpre⟩ rfl hn9 hA.2.2.1.1 hstk2 hwt2 hdec3 hfit)
                · exact fin (va_runIN (n := As'.length) ⟨hx, hb, hml, hown, hts⟩ hM ⟨va_cnB As'.length hts (dm_good hcode) hw9 rfl rfl hl (hts _ hinit) ⟨hmh.1, hmh.2, hp9⟩ hroom, hname, hts _ hinst⟩ ⟨dm_blind, hpre⟩ rfl hn9 hA.2.2.1.1 hstk2 hwt2 hdec3 hfit)
              · cases hcls
        · rename_i hrow
          exfalso
          cases d with
          | zero => simp [dm_run] at hrun
          | succ d => simp [dm_run, hrow] at hrun
      · cases h
    · cases h
  · -- Object's own
    rename_i w
    split at h
    · rename_i q st1
      split at h
      · rename_i hwt
        cases h
        simp only [dm_okC, Bool.and_eq_true, decide_eq_true_eq] at hokC
        obtain ⟨rfl, hlk⟩ := hokC
        rcases hkd with ⟨h9, -⟩ | ⟨h9, -⟩ | ⟨-, rfl⟩
        · cases h9
        · cases h9
        · have hR1 : 1 ≤ R.frames ∧ 64 ≤ R.locals := by rw [← hR]; simp only [dm_rm]; omega
          refine W.objInit hx hb hown (dm_tb hts hlk rfl) (hts _ dm_objw.1) (hts _ dm_objw.2) rfl (hA.2.2.1.1.trans hml.symm) rfl hdec3 hR1.1 ?_ (kk cA H locs cells slots lsA hA)
          have h8 : 2 * (F0 m pc lsA (dm_sm base ext (.ref q :: st'))).monitorRoom + ((dm_sm base ext st').map fun v => v.category).sum ≤ 8 := lv_room (dm_wait_sum hwt)
          have h9 : 2 * (F0 m pc lsA (dm_sm base ext (.ref q :: st'))).monitorRoom + ((dm_sm base ext st').map fun v => v.category).sum + 12 ≤ R.locals := by omega
          exact h9
      · cases h
    · cases h
  · -- arraycopy
    rename_i w
    simp only [dm_okC, Bool.and_eq_true, decide_eq_true_eq] at hokC
    obtain ⟨rfl, hlk⟩ := hokC
    rcases hkd with ⟨h9, -⟩ | ⟨-, rfl⟩ | ⟨h9, -⟩
    · cases h9
    · have hR1 : 1 ≤ R.frames ∧ 64 ≤ R.locals := by rw [← hR]; simp only [dm_rm]; omega
      exact dm_g_acopy Cx hR1.1 hR1.2 hlk hdec3 h kk cA H locs cells slots lsA hA
    · cases h9
  · -- Math.max
    rename_i w
    simp only [dm_okC, Bool.and_eq_true, decide_eq_true_eq] at hokC
    obtain ⟨rfl, hlk⟩ := hokC
    rcases hkd with ⟨h9, -⟩ | ⟨-, rfl⟩ | ⟨h9, -⟩
    · cases h9
    · have hR1 : 1 ≤ R.frames ∧ 64 ≤ R.locals := by rw [← hR]; simp only [dm_rm]; omega
      split at h
      · split at h
        · rename_i hwt
          cases h
          have h8 := dm_wait_sum (base := base) (ext := ext) hwt
          exact va_mmax hx hb (hml.trans hA.2.2.1.1.symm) hown (dm_tb hts hlk rfl) (hts _ dm_mathw.1.1) (hts _ dm_mathw.2.2) (hts _ dm_mathw.1.2) hR1.1 (Nat.le_trans (Nat.add_le_add_right h8 13) (Nat.le_trans (by decide) hR1.2)) (by omega) (by omega) hdec3 (kk cA H locs cells slots lsA hA)
        · cases h
      · cases h
    · cases h9
  · -- Math.min
    rename_i w
    simp only [dm_okC, Bool.and_eq_true, decide_eq_true_eq] at hokC
    obtain ⟨rfl, hlk⟩ := hokC
    rcases hkd with ⟨h9, -⟩ | ⟨-, rfl⟩ | ⟨h9, -⟩
    · cases h9
    · have hR1 : 1 ≤ R.frames ∧ 64 ≤ R.locals := by rw [← hR]; simp only [dm_rm]; omega
      split at h
      · split at h
        · rename_i hwt
          cases h
          have h8 := dm_wait_sum (base := base) (ext := ext) hwt
          exact va_mmin hx hb (hml.trans hA.2.2.1.1.symm) hown (dm_tb hts hlk rfl) (hts _ dm_mathw.2.1.1) (hts _ dm_mathw.2.2) (hts _ dm_mathw.2.1.2) hR1.1 (Nat.le_trans (Nat.add_le_add_right h8 13) (Nat.le_trans (by decide) hR1.2)) (by omega) (by omega) hdec3 (kk cA H locs cells slots lsA hA)
        · cases h
      · cases h
    · cases h9
  · cases h
end DMC
