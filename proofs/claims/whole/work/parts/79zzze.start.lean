/-! THE START: what the statement gives of the law's entry is what the walk stands on. -/
def ws_ww : List Cond := flatC (Jvm.Cond.and given_1 narrow_1)
def ws_st (j : Nat) : Term := .static dm_RW (dm_names.getD j "") dm_dW
def ws_all : Term := .static dm_RW "ALL" "[LPulseRent$Word;"
def ws_tx : Term := .string RX9 55
def ws_by : Term := .field ws_tx RJ0 "value" "[B"
set_option maxRecDepth 100000 in
theorem ws_w1 : ∀ j, j < 37 → Cond.exactly (ws_st j) dm_RW ∈ ws_ww ∧ Cond.eq (.field (ws_st j) dm_RW "code" "J") (.long (dm_codes.getD j 0)) ∈ ws_ww ∧ Cond.eq (.field (ws_st j) dm_RW "reserved" "Z") (.int (dm_res j)) ∈ ws_ww ∧ Cond.eq (.elem ws_all (.int (Int32.ofNat j))) (ws_st j) ∈ ws_ww := by decide +kernel
set_option maxRecDepth 100000 in
theorem ws_w2 : Cond.arrayOf ws_all (.object dm_RW) ∈ ws_ww ∧ Cond.eq (.length ws_all) (.int (Int32.ofNat 37)) ∈ ws_ww := by decide +kernel
set_option maxRecDepth 100000 in
theorem ws_w3 : Cond.eq (.static RJ0 "COMPACT_STRINGS" "Z") (.int 1) ∈ ws_ww ∧ Cond.exactly ws_tx RJ0 ∈ ws_ww ∧ Cond.eq (.field ws_tx RJ0 "coder" "B") (.int 0) ∈ ws_ww ∧ Cond.arrayOf ws_by .byte ∈ ws_ww ∧ Cond.eq (.length ws_by) (.int (Int32.ofNat 8)) ∈ ws_ww := by decide +kernel
set_option maxRecDepth 100000 in
theorem ws_w4 : ∀ j, j < 8 → Cond.eq (.elem ws_by (.int (Int32.ofNat j))) (.int (dm_bytes.getD j 0)) ∈ ws_ww := by decide +kernel
set_option maxRecDepth 100000 in
theorem ws_w5 : Cond.isRef (.static Bundle.tN "UNASSIGNED_STACK" Bundle.steD) ∈ ws_ww ∧ Cond.isRef (.static Bundle.tN "SUPPRESSED_SENTINEL" Bundle.listD) ∈ ws_ww ∧ Cond.exactly (.string RX11 250) RJ0 ∈ ws_ww := by decide +kernel
set_option maxRecDepth 100000 in
theorem ws_t1 : ∀ j, j < 37 → Cond.laysStatic dm_RW (dm_names.getD j "") dm_dW ∈ tables_1 := by decide +kernel
set_option maxRecDepth 100000 in
theorem ws_t2 : Cond.laysStatic dm_RW "ALL" "[LPulseRent$Word;" ∈ tables_1 ∧ Cond.initialized dm_RW ∈ tables_1 ∧ Cond.laysStatic RJ0 "COMPACT_STRINGS" "Z" ∈ tables_1 ∧ Cond.initialized RJ0 ∈ tables_1 ∧ Cond.stringRef RX9 55 "()<=+-*;" ∈ tables_1 := by decide +kernel
set_option maxRecDepth 100000 in
theorem ws_t3 : Cond.laysStatic Bundle.tN "UNASSIGNED_STACK" Bundle.steD ∈ tables_1 ∧ Cond.laysStatic Bundle.tN "SUPPRESSED_SENTINEL" Bundle.listD ∈ tables_1 ∧ Cond.initialized Bundle.tN ∈ tables_1 ∧ Cond.stringRef RX11 250 "a lease is of two who are in" ∈ tables_1 := by decide +kernel
set_option maxRecDepth 100000 in
theorem ws_t4 : ∀ w ∈ dm_nw, w ∈ tables_1 := by decide +kernel
set_option maxRecDepth 100000 in
theorem ws_t5 : Cond.arrayOver (.object RX6) ∈ tables_1 ∧ Cond.arrayOver (.object RX7) ∈ tables_1 ∧ Cond.arrayOver (.array .int) ∈ tables_1 := by decide +kernel
set_option maxRecDepth 100000 in
theorem ws_cd : ∀ i, i < 37 → ∀ j, j < 37 → dm_codes.getD i 0 = dm_codes.getD j 0 → i = j := by decide +kernel
theorem ws_ex {args : Array Value} {s : State} {t : Term} {cls : String} (h : (Cond.exactly t cls).before args s = true) : ∃ a : Nat, t.eval args s none [] s = some (.ref a) := by
  obtain ⟨a, c, cell, k, h1, -⟩ := Cond.exactly_spec h
  exact ⟨a, h1⟩
theorem ws_eqr {args : Array Value} {s : State} {t u : Term} {a : Nat} (h : (Cond.eq t u).before args s = true) (hu : u.eval args s none [] s = some (.ref a)) : t.eval args s none [] s = some (.ref a) := by
  cases hv : t.eval args s none [] s with
  | none => simp [Cond.before, Cond.holds, Cond.value, hv] at h
  | some w =>
    simp only [Cond.before, Cond.holds, Cond.value, hv, hu] at h
    cases w <;> simp_all
theorem ws_of {o n d : String} {v w : Value} {t : Nat} {A : Nat → Prop} {U : State} {H : Heap} (h1 : va_OF o n d v t A U H) (h2 : va_OF o n d w t A U H) : v = w := by
  obtain ⟨cf, k, i, f, cell, a1, a2, a3, a4, a5, a6⟩ := h1
  obtain ⟨cf', k', i', f', cell', b1, b2, b3, b4, b5, b6⟩ := h2
  cases a1.symm.trans b1
  cases a3.symm.trans b3
  cases a5.symm.trans b5
  rfl
theorem ws_K {s : State} {m0 : ClassId} {args : Array Value} (hg : ∀ w ∈ dm_GW, w.before args s = true) : ∃ D : va_G, va_K D dm_cl [] s := by
  have h : ∀ ci : Nat, ∃ x : ClassId × (Nat → Nat), ∀ q, dm_cl[ci]? = some q → u_Kn s q.1 q.2.1 q.2.2 x.1 x.2 := by
    intro ci
    cases hq : dm_cl[ci]? with
    | none => exact ⟨(m0, fun _ => 0), fun q h => by cases h⟩
    | some q =>
      obtain ⟨-, -, -, h4, h5, -⟩ := dm_class hq
      obtain ⟨cC, iS, hk⟩ := u_known (ws := dm_GW) hg h4 (hg _ h5)
      exact ⟨(cC, iS), fun q' h => by cases h; exact hk⟩
  obtain ⟨f, hf⟩ := Classical.axiomOfChoice h
  exact ⟨(fun c => (f c).1, fun c => (f c).2), fun c q hq => hf c q hq, fun k q hk => by simp at hk⟩
theorem ws_X {s : State} {args : Array Value} {b L : Nat} {xs : Nat → Int32} (hts : ∀ w ∈ lw_tbl, w.before args s = true) (hs : ∀ w ∈ ws_ww, w.before args s = true) (hX : va_X b L xs s s.heap) (hbl : b < s.heap.size) :
    ∃ ext : Nat → Nat, ext 200 = b ∧ dm_X (L, xs) s.heap.size ext s s.heap := by
  have ht : ∀ w ∈ tables_1, w.before args s = true := fun w h => hts w (List.mem_append_right _ h)
  have hA : ∀ a : Nat, a < s.heap.size → ¬ dm_A s.heap.size a := fun a h => Nat.not_le.mpr h
  have hw : ∀ j : Nat, ∃ a : Nat, j < 37 → (ws_st j).eval args s none [] s = some (.ref a) := by
    intro j
    by_cases hj : j < 37
    · obtain ⟨a, ha⟩ := ws_ex (hs _ (ws_w1 j hj).1)
      exact ⟨a, fun _ => ha⟩
    · exact ⟨0, fun h => absurd h hj⟩
  obtain ⟨f, hf⟩ := Classical.axiomOfChoice hw
  obtain ⟨tA, hA1, hA2⟩ := va_Tof (tm := ws_all) (ty := .object dm_RW) (N := 37) (f := fun j => .ref (f j)) (A := dm_A s.heap.size) (by decide) (hs _ ws_w2.1) (va_eqt (hs _ ws_w2.2)) (fun j hj => ws_eqr (hs _ (ws_w1 j hj).2.2.2) (hf j hj)) hA
  obtain ⟨tx, htx⟩ := ws_ex (hs _ ws_w3.2.1)
  obtain ⟨tb, hb1, hb2⟩ := va_Tof (tm := ws_by) (ty := .byte) (N := 8) (f := fun j => .int (dm_bytes.getD j 0)) (A := dm_A s.heap.size) (by decide) (hs _ ws_w3.2.2.2.1) (va_eqt (hs _ ws_w3.2.2.2.2)) (fun j hj => va_eqt (hs _ (ws_w4 j hj))) hA
  have hcode : ∀ j, j < 37 → va_OF dm_RW "code" "J" (.long (dm_codes.getD j 0)) (f j) (dm_A s.heap.size) s s.heap := fun j hj => vk_OFof (hf j hj) (va_eqtl (hs _ (ws_w1 j hj).2.1)) hA
  refine ⟨fun k => if k < 37 then f k else if k = 100 then tA else if k = 200 then b else if k = 300 then tx else tb, rfl, ?_⟩
  have e37 : ∀ j, j < 37 → (fun k => if k < 37 then f k else if k = 100 then tA else if k = 200 then b else if k = 300 then tx else tb) j = f j := fun j hj => if_pos hj
  refine ⟨fun j hj => ?_, fun i j hi hj he => ?_, ⟨?_, ?_⟩, ⟨?_, ?_, ?_⟩, ?_, ?_, ?_, ?_, ?_, ?_⟩
  · rw [e37 j hj]
    exact ⟨va_Zof (ht _ (ws_t1 j hj)) (ht _ ws_t2.2.1) (hf j hj) hA, hcode j hj, vk_OFof (hf j hj) (va_eqt (hs _ (ws_w1 j hj).2.2.1)) hA⟩
  · rw [e37 i hi, e37 j hj] at he
    have h1 := hcode i hi
    have h2 := hcode j hj
    rw [he] at h1
    exact ws_cd i hi j hj (Value.long.inj (ws_of h1 h2))
  · exact va_Zof (ht _ ws_t2.1) (ht _ ws_t2.2.1) hA1 hA
  · obtain ⟨cell, h1, h2, h3, h4, h5, h6, h7⟩ := hA2
    exact ⟨cell, h1, h2, h3, h4, h5, fun j hj => by
      have h := h6 j hj
      rw [h]
      show some (Value.ref (f j)) = some (Value.ref (if j < 37 then f j else _))
      rw [if_pos hj], h7⟩
  · exact hX
  · exact hbl
  · exact hbl
  · exact vk_R.of (ht _ ws_t2.2.2.2.2) htx
  · exact va_Zof (ht _ ws_t2.2.2.1) (ht _ ws_t2.2.2.2.1) (va_eqi (hs _ ws_w3.1)) hA
  · exact va_Oof (hs _ ws_w3.2.1) htx hA
  · exact vk_OFof htx (va_eqt (hs _ ws_w3.2.2.1)) hA
  · exact vk_OFof htx hb1 hA
  · exact hb2
def R_law : String := "PulseRentLaw"
def lw_P (b : Addr) (xs : List Int32) (args : Array Value) (s : State) : Prop := args = #[.ref b] ∧ s.IntsAt b xs ∧ xs.length ≤ 3584 ∧ (Jvm.Cond.and given_1 narrow_1).before args s = true
def lw_Q (_ : Array Value) (s : State) (o : Outcome) (t : State) : Prop := o = .returned (some (.int 1)) ∧ Framed s o t [] 601024 7293034
def lw_Z (below : List Frame) (a : Array Value) (s : State) : State → Prop := fun t => ∃ o, t.status = .running ∧ Ended t below o ∧ lw_Q a s o t
/-- the law's own end, with 1 on the stack, nothing written that was there before, its room as the claim has it -/
theorem lw_ret {p : Program} {l : Launch} {e : Env} {s : State} {m : MethodId} {below : List Frame} {meth : Method} {c : Code} {b : Nat} (hx : p.tables.exec = Jvm.exec) (hb : c.code = code) (hr : meth.sig.returnType = ret) (hlocks : meth.locks = false) {pc : Nat} {H : Heap} {ls : Array Slot} (hdg : decode code pc = .ok (.ireturn, 1)) : W p l e room_1 s m #[Value.ref b] below meth c H [] 601024 7293034 (lw_Z below #[Value.ref b] s) (F0 m pc ls [.int 1]) := by
  intro T hT X
  obtain ⟨fs, hret, hrun, hended, hW, hframe⟩ := X.leave (v := some (.int 1)) (hlocks := hlocks) (fun h => by rw [hr] at h; cases h)
  have hmeth' : T.vm.method? m = some meth := X.method'
  refine ⟨T.setFrames fs, ?_, .returned (some (.int 1)), hrun, hended, rfl, ⟨_, rfl⟩, hW, hframe⟩
  jvm_step X.here [X.here.top, hx, hb, hdg, hmeth', hr, ret, narrow_b1]
  (try refine ⟨rfl, ?_⟩); (try refine ⟨rfl, ?_⟩)
  first | (intro acts; rw [hret _ acts rfl rfl rfl]) | rw [hret _ _ rfl rfl rfl]
  exact Steps.refl _
/-- what holds at the law's entry: the machine, the code, the tables' words (any of lw_tbl by 'hts w (by decide +kernel)'), the script of L ints xs at the cell b, what the Statement gives of the start (any of its parts by flat_of_before) -/
def lw_At (p : Program) (s : State) (m : MethodId) (meth : Method) (c : Code) (b L : Nat) (xs : Nat → Int32) : Prop :=
  p.tables.exec = Jvm.exec ∧ c.code = code ∧ meth.sig.returnType = ret ∧ c.maxLocals = 7 ∧ s.vm.findClass R_law = some m.cls ∧ (∀ w ∈ lw_tbl, w.before #[Value.ref b] s = true) ∧ va_X b L xs s s.heap ∧ b < s.heap.size ∧ meth.locks = false ∧ (Jvm.Cond.and given_1 narrow_1).before #[Value.ref b] s = true
set_option maxRecDepth 100000 in
theorem ws_dec : ∀ o ∈ qL_law, o.2.1 = .ireturn → o.2.2.1 = 1 := by decide +kernel
theorem ws_room : (ly_SH.map dm_sz).sum + 3072 ≤ 7293034 := by decide +kernel
/-- the law's walk, from the entry to its end -/
theorem ws_start {p : Program} {e : Env} {s : State} {m : MethodId} {below : List Frame} {meth : Method} {c : Code} (l : Launch) (hl : l.stackTraces = false) (hrows : ∀ mi row, dm_tab mi = some row → dm_RowOK mi row) {b L : Nat} {xs : Nat → Int32} (hL : L ≤ 3584) (C0 : lw_At p s m meth c b L xs) : W p l e room_1 s m #[Value.ref b] below meth c s.heap [] 0 0 (lw_Z below #[Value.ref b] s) (entryFrame m ([Value.ref b] : List Value).toArray 7) := by
  obtain ⟨hx, hb, hr, hml, hown, hts, hX, hbl, hlocks, hgv⟩ := id C0
  have hs : ∀ w ∈ ws_ww, w.before #[Value.ref b] s = true := flat_of_before _ hgv
  have hg : ∀ w ∈ dm_GW, w.before #[Value.ref b] s = true := fun w h => hts w (List.mem_filter.mp h).1
  have ht : ∀ w ∈ tables_1, w.before #[Value.ref b] s = true := fun w h => hts w (List.mem_append_right _ h)
  have hA : ∀ a : Nat, a < s.heap.size → ¬ dm_A s.heap.size a := fun a h => Nat.not_le.mpr h
  obtain ⟨D, hK⟩ := ws_K (m0 := m.cls) hg
  obtain ⟨ext, he, hD⟩ := ws_X hts hs hX hbl
  obtain ⟨sa, hsa⟩ := ws_ex (hs _ ws_w5.2.2)
  have hlx : lx_K s.heap.size sa s s.heap := ⟨fun w hw => va_Nw.of (lx_Wot w hw) (hts w (lx_L3 w hw)), vx_Zqof (ht _ ws_t3.1) (ht _ ws_t3.2.2.1) (hs _ ws_w5.1) hA, vx_Zqof (ht _ ws_t3.2.1) (ht _ ws_t3.2.2.1) (hs _ ws_w5.2.1) hA, vk_R.of (ht _ ws_t3.2.2.2) hsa⟩
  have hKK : dm_K (L, xs) s.heap.size D ext s s.heap := ⟨Nat.le_refl _, hK, fun w hw => va_Nw.of (by rcases dm_nw_kind w hw with ⟨_, _, _, _, _, _, rfl⟩ | ⟨_, _, _, _, rfl⟩ <;> rfl) (ht w (ws_t4 w hw)), hD, va_AO.of (ht _ ws_t5.1), va_AO.of (ht _ ws_t5.2.1), ht _ ws_t5.2.2⟩
  have Cx : dm_Cx p s m #[Value.ref b] c cL_law RL 7 (L, xs) s.heap.size D ext 0 := ⟨hx, hb, hml, hown, hg, hKK, Nat.le_refl _⟩
  obtain ⟨n, N, σ', hex, h1, h2⟩ := lw_pure (S := (L, xs)) hL
  have G := lw_go (l := l) (e := e) (R := room_1) (below := below) (meth := meth) (Q := lw_Z below #[Value.ref b] s) (s0 := 0) hl hrows lw_okI Cx hlx ⟨by decide, by decide⟩ hex (Nat.le_trans h1 (by decide)) (Nat.le_trans h2 (Nat.le_trans ws_room (by decide))) (by
    intro pc i len aux ls st ho hir
    rcases hir with ⟨-, h, -⟩ | ⟨rfl, ty, v, -, rfl, -, hv⟩ | ⟨-, v, h, -⟩ | ⟨-, n, v, h, -⟩
    · cases h
    · cases hv
      intro cA H locs cells slots lsA hAt
      obtain ⟨-, hS, -, hc1, hc2⟩ := hAt
      have hd : decode code pc = .ok (.ireturn, len) := by
        have h9 := lw_okI _ ho
        simp only [dm_okI, Bool.and_eq_true] at h9
        exact of_decide_eq_true h9.1
      rw [show len = 1 from ws_dec _ ho rfl] at hd
      refine va_forget (fun q hq => hS.2.2 q hq) ?_
      refine W.widen (k := 601024) (n := 7293034) (by omega) (by have := ws_room; omega) ?_
      exact lw_ret hx hb hr hlocks hd
    · cases h
    · cases h)
  have hl0 := lv_entry ([.ref b]) (n := 7) (Nat.le_of_ble_eq_true rfl)
  rw [lg_entry_eq]
  generalize (lg_sl ([.ref b]) ++ List.replicate (7 - (lg_sl ([.ref b])).length) Slot.unset).toArray = ls at hl0 ⊢
  have hl1 : lv_has ls 7 [(0, .ref b)] := hl0
  refine G (fun _ => m.cls) s.heap [] 0 0 ls ⟨⟨fun k q h => ?_, fun q t n h => ?_⟩, va_S.rf, ?_, rfl, rfl⟩
  · simp [dm_ws, dm_sh, dm_e] at h
  · simp [dm_sh, dm_e] at h
  · show lv_has ls 7 [(0, .ref (ext 200))]
    rw [he]
    exact hl1
