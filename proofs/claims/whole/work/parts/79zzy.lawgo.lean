/-! The law's own two calls, walked. -/
section LXG
variable {p : Program} {l : Launch} {e : Env} {R : Room} {s : State} {m : MethodId} {args : Array Value} {below : List Frame} {meth : Method} {c : Code} {H : Heap} {locs : List Loc} {cells slots : Nat} {Q : State → Prop}
variable {S : dm_Sc} {base : Nat} {D : va_G} {ext : Nat → Nat} {σ σ' : dm_St} {ls : dm_Lv} {st rest as : List Value} {lsA : Array Slot} {pc c0 s0 sa : Nat} {r : Option Value}
theorem lx_callGo {mc ms : Nat} {st0 rest : List Value} (hr : vx_Run p l e R s m args below meth c H locs cells slots mc ms (F0 m pc lsA st0) rest (dm_Qa base D ext r σ') (fun _ _ _ => False) (dm_A base)) (hS : va_S (dm_A base) s.heap H locs)
    (kk : ∀ (cA : Nat → ClassId) (H1 : Heap) (locs1 : List Loc), dm_Wd base D ext cA σ' s H1 → va_S (dm_A base) s.heap H1 locs1 → W p l e R s m args below meth c H1 locs1 (cells + mc) (slots + ms) Q (F0 m (pc + 3) lsA ((r.map (dm_cv base ext)).toList ++ rest))) : W p l e R s m args below meth c H locs cells slots Q (F0 m pc lsA st0) := by
  intro T hT X
  rcases hr T hT X with ⟨v, st₀, t, T', L, h0, X', hL, e1, e2, ⟨hv, ⟨cA, hW⟩, hz, hk⟩, goes⟩ | ⟨q, st₀, t, T', L, E, ce, h0, X', hL, e1, e2, hF, -⟩
  · cases hv
    rw [h0] at hz hk
    have ha : t.vm.Alike s.vm := by rw [← e2]; exact X'.warmed.alike.symm
    obtain ⟨t2, a1, b1⟩ := kk cA T'.heap (locs ++ L) (by rw [e1]; exact hW.moved ha)
      ⟨Nat.le_trans hS.1 (by rw [e1]; exact hz), fun q h1 h2 => by rw [e1, hk q (Nat.lt_of_lt_of_le h1 hS.1) h2]; exact hS.2.1 q h1 h2, fun q hq => by
        rcases List.mem_append.mp hq with h | h
        · exact hS.2.2 q h
        · exact hL q h⟩ T' rfl X'
    exact ⟨t2, goes t2 a1, b1⟩
  · exact hF.elim
theorem lx_ginv {y y2 : MethodName} {cc cc2 : ByteArray} {ix : Nat} {tl : List dm_Op} (ok : lx_OK y cc tl) (ok2 : lx_OK2 y2 cc2 ix y cc) (hl : l.stackTraces = false) (hrows : ∀ mi row, dm_tab mi = some row → dm_RowOK mi row) (Cx : dm_Cx p s m args c cL_law RL 7 S base D ext c0) (hX : lx_K base sa s s.heap) {d N ixc : Nat} (hd : 4 ≤ d) (hR : d + 4 ≤ R.frames ∧ 64 * (d + 4) ≤ R.locals) (hdec : decode cL_law pc = .ok (.invokestatic ixc, 3))
    (hw : Cond.methodLink RL ixc y2 ∈ dm_GW ∧ Cond.static y2 ∈ dm_GW ∧ Cond.initialized y2.cls ∈ dm_GW) (hds : y2.cls ≠ "java/lang/invoke/MethodHandle" ∧ y2.cls ≠ "java/lang/invoke/VarHandle" ∧ (parseMethodDescriptor y2.desc).map (fun d => d.parameters.length) = some 4) {b : Bool} (hb : lzk b = tl) (hlz : lz S d N b as σ = some (r, σ')) (hle : dm_le σ σ') (hst : st = as.reverse ++ rest) (hwt : dm_wait rest = true) (hRc : dm_cost σ' ≤ c0 + R.cells) (hRs : dm_slo σ' ≤ s0 + R.slots)
    (kk : dm_Go p l e R s m args below meth c Q 7 base D ext c0 s0 (pc + 3) ls (r.toList ++ rest) σ') : dm_Go p l e R s m args below meth c Q 7 base D ext c0 s0 pc ls st σ := by
  intro cA H locs cells slots lsA hA
  refine dm_Wsz (fun hz => ?_)
  obtain ⟨hx, hbt, hml, hown, hts, hK, hsz⟩ := id Cx
  obtain ⟨hlen, hM⟩ := lx_cat (l := l) (S := S) (base := base) (D := D) (ext := ext) (sa := sa) ok ok2 hl hrows hd hb hlz
  have c1 := hA.2.2.2.1
  have s1 := hA.2.2.2.2
  have l1 := hle.1
  have l2 := hle.2
  have hT : GoodIn dm_GW (va_wsS RL ixc y2 (lx_ws2 y2 cc2)) := by
    intro w' hw'
    have hm : w' ∈ dm_GW := by
      rcases List.mem_append.mp hw' with g | g
      · simp only [List.mem_cons, List.not_mem_nil, or_false] at g
        rcases g with rfl | rfl | rfl
        · exact hw.1
        · exact hw.2.1
        · exact hw.2.2
      · rcases List.mem_cons.mp g with rfl | g
        · exact ok2.1.1
        · exact g
    exact ⟨hm, good_of_word (List.mem_filter.mp hm).2⟩
  have hroom : (dm_rm (d + 2) (dm_cost σ' - dm_cost σ) (dm_slo σ' - dm_slo σ)).frames + 1 ≤ R.frames ∧ 8 + (5 + 11) + (dm_rm (d + 2) (dm_cost σ' - dm_cost σ) (dm_slo σ' - dm_slo σ)).locals ≤ R.locals := by
    simp only [dm_rm]; omega
  have run := vx_runSX (below := below) (meth := meth) (e := e) (locs := locs) (cells := cells) (slots := slots) (H := H) (hh := [(0, 10, 13, 13)]) (n := 4) (As := dm_sm base ext as) (rest := dm_sm base ext rest) (g := F0 m pc lsA (dm_sm base ext st)) ⟨hx, hbt, hml, hown, hts⟩ hM (vx_cwSW 4 hts hT rfl rfl rfl hds hroom) ⟨lx_blind, fun U hU hW => by
    have q := dm_pre (as := as) Cx hA hz U hU hW
    refine ⟨rfl, ⟨q.2.1, q.2.2.1, q.2.2.2⟩, ?_⟩
    rw [hU]
    exact (hX.kept hA.2.1.2.1).warm hW⟩ rfl ((List.length_map _).trans hlen) hA.2.2.1.1 (by
    show dm_sm base ext st = _
    rw [hst, dm_sm_app, dm_sm_rev]) (lv_room (dm_wait_sum hwt)) hdec ⟨by omega, by omega⟩
  refine lx_callGo run hA.2.1 (fun cA1 H1 locs1 hW1 hS1 => ?_)
  have q := kk cA1 H1 locs1 (cells + (dm_cost σ' - dm_cost σ)) (slots + (dm_slo σ' - dm_slo σ)) lsA ⟨hW1, hS1, hA.2.2.1, by omega, by omega⟩
  cases r <;> exact q
end LXG
