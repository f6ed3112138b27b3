/-! System.arraycopy; arrays of arrays. -/
theorem dm_outer (c : ClassId) (N h0 : Nat) : ∀ i : Nat, Jvm.Free.Multi.outerC c N h0 i = arrV c N (fun j => va_rf (if j < i then some (h0 + 1 + j) else none))
  | 0 => by
    show ({ cls := c, slots := Array.replicate N .null, vm := .none } : Cell) = _
    rw [arrV_new]
    refine congrArg (arrV c N) (funext fun j => ?_)
    simp [va_rf]
  | i + 1 => by
    show (Jvm.Free.Multi.outerC c N h0 i).setSlot i (.ref (h0 + 1 + i)) = _
    rw [dm_outer c N h0 i, arrV_store]
    refine congrArg (arrV c N) (funext fun j => ?_)
    by_cases e : j = i
    · subst e
      simp [updV, va_rf]
    · by_cases h : j < i
      · simp [updV, e, h, Nat.lt_succ_of_lt h]
      · simp [updV, e, h, show ¬ j < i + 1 by omega]
section DMM
variable {p : Program} {l : Launch} {e : Env} {R : Room} {s : State} {m : MethodId} {args : Array Value} {below : List Frame} {meth : Method} {c : Code} {H : Heap} {locs : List Loc} {cells slots : Nat} {Q : State → Prop}
variable {cc : ByteArray} {own : String} {nL : Nat} {S : dm_Sc} {base : Nat} {D : va_G} {ext : Nat → Nat} {cA : Nat → ClassId} {σ σ' : dm_St} {ls ls' : dm_Lv} {st st' : List Value} {lsA : Array Slot} {pc c0 s0 : Nat}
theorem dm_wait_sum (h : dm_wait st = true) : ((dm_sm base ext st).map fun v => v.category).sum ≤ 8 := by
  have e : ((dm_sm base ext st).map fun v => v.category) = st.map fun v => v.category := by
    rw [List.map_map]
    exact List.map_congr_left fun v _ => dm_cv_cat base ext v
  rw [e]
  exact Nat.le_of_ble_eq_true h
theorem dm_cpyw : Cond.native arraycopyName ∈ dm_GW ∧ Cond.static arraycopyName ∈ dm_GW ∧ Cond.initialized "java/lang/System" ∈ dm_GW := by decide +kernel
theorem dm_g_acopy {ix : Nat} {w : Int} (Cx : dm_Cx p s m args c cc own nL S base D ext c0) (hRf : 1 ≤ R.frames) (hRl : 64 ≤ R.locals) (hlk : dm_tx (w.toNat) = some (.methodLink own ix arraycopyName)) (hdg : decode cc pc = .ok (.invokestatic ix, 3)) (h : dm_acopy ls st σ = some (ls', st', σ')) (kk : dm_Go p l e R s m args below meth c Q nL base D ext c0 s0 (pc + 3) ls' st' σ') : dm_Go p l e R s m args below meth c Q nL base D ext c0 s0 pc ls st σ := by
  intro cA H locs cells slots lsA hA
  obtain ⟨hx, hb, hml, hown, hts, hK, hsz⟩ := Cx
  unfold dm_acopy at h
  split at h
  · rename_i n dp b sp a st1
    split at h
    · rename_i t na t' nb hsa hsb
      split at h
      · rename_i hc
        obtain ⟨hw, rfl, rfl, h1, h2, h3, h4, h5⟩ := hc
        cases h
        have ho : ∀ r y, r ≠ b → dm_ce base ext cA (dm_setI σ (dm_row (dm_I σ) b (va_cpy (dm_I σ a) (dm_I σ b) sp.toNatClampNeg dp.toNatClampNeg n.toNatClampNeg))) r y = dm_ce base ext cA σ r y := fun r y hr => dm_ce_eq (σ := σ) (σ' := dm_setI σ (dm_row (dm_I σ) b (va_cpy (dm_I σ a) (dm_I σ b) sp.toNatClampNeg dp.toNatClampNeg n.toNatClampNeg))) (dm_row_ne hr) rfl rfl y
        have hKa : va_K D dm_cl [(cA a, .int), (cA b, .int)] s := ⟨hK.2.1.1, fun k x hk => by
          match k, hk with
          | 0, hk => cases hk; exact hA.1.2 a 0 na hsa
          | 1, hk => cases hk; exact hA.1.2 b 0 nb hsb
          | k + 2, hk => simp at hk⟩
        refine va_copyi (ty := .int) hx hb (hml.trans hA.2.2.1.1.symm) hown (dm_tb hts hlk rfl) (hts _ dm_cpyw.1) (hts _ dm_cpyw.2.1) (hts _ dm_cpyw.2.2) hKa hA.1.1 (dm_D base ext cA σ) hA.2.1 a b 0 1 (dm_ws_at hsa) (dm_ws_at hsb) rfl rfl rfl (Int32.not_lt.mpr h2) (Int32.not_lt.mpr h3) (Int32.not_lt.mpr h1) h4 h5 (fun _ _ => rfl) hRf ?_ hdg (fun H1 locs1 hP1 _ hS1 => kk cA H1 locs1 cells slots lsA (dm_put_row (σ' := dm_setI σ (dm_row (dm_I σ) b (va_cpy (dm_I σ a) (dm_I σ b) sp.toNatClampNeg dp.toNatClampNeg n.toNatClampNeg))) hA hsb rfl rfl ho ?_ hP1 hS1))
        · have h8 := dm_wait_sum (base := base) (ext := ext) hw
          have h9 : nativeFrameWords "java/lang/System" "arraycopy" 5 + 11 ≤ 56 := by decide
          exact Nat.le_trans (Nat.add_le_add h8 h9) hRl
        · simp only [dm_ce, dm_I, dm_setI, dm_row_eq]
      · cases h
    · cases h
  · cases h
/-- the rows of dm_rows -/
theorem dm_rows_sh (k : Nat) : ∀ n, (dm_rows k n σ).1 = σ.1 ++ List.replicate n (.inr (0, k)) ∧ (dm_rows k n σ).2.1 = σ.2.1
  | 0 => by simp [dm_rows]
  | n + 1 => by
    obtain ⟨h1, h2⟩ := dm_rows_sh k n
    constructor
    · show (dm_rows k n σ).1 ++ [_] = _
      rw [h1, List.append_assoc, List.replicate_succ']
    · exact h2
theorem dm_rows_old (k : Nat) {q : Nat} (hq : q < σ.1.length) : ∀ n, dm_I (dm_rows k n σ) q = dm_I σ q ∧ dm_L (dm_rows k n σ) q = dm_L σ q ∧ dm_R (dm_rows k n σ) q = dm_R σ q
  | 0 => ⟨rfl, rfl, rfl⟩
  | n + 1 => by
    obtain ⟨h1, h2, h3⟩ := dm_rows_old k hq n
    have hl : (dm_rows k n σ).1.length = σ.1.length + n := by rw [(dm_rows_sh k n).1]; simp
    have hne : q ≠ (dm_rows k n σ).1.length := by omega
    exact ⟨(dm_row_ne hne).trans h1, (dm_row_ne hne).trans h2, (dm_row_ne hne).trans h3⟩
theorem dm_rows_new (k : Nat) : ∀ n j, j < n → dm_I (dm_rows k n σ) (σ.1.length + j) = fun _ => 0
  | 0, _, h => absurd h (Nat.not_lt_zero _)
  | n + 1, j, h => by
    have hl : (dm_rows k n σ).1.length = σ.1.length + n := by rw [(dm_rows_sh k n).1]; simp
    by_cases e : j = n
    · subst e
      show dm_row (dm_I (dm_rows k j σ)) (dm_rows k j σ).1.length (fun _ => 0) (σ.1.length + j) = _
      rw [hl, dm_row_eq]
    · have hne : σ.1.length + j ≠ (dm_rows k n σ).1.length := by omega
      exact (dm_row_ne hne).trans (dm_rows_new k n j (by omega))
theorem dm_mna_sh (n k : Nat) : (dm_mna n k σ).1 = σ.1 ++ (.inr (6, n) :: List.replicate n (.inr (0, k))) ∧ (dm_mna n k σ).2.1 = σ.2.1 := by
  obtain ⟨h1, h2⟩ := dm_rows_sh (σ := dm_push σ (.inr (6, n))) k n
  constructor
  · show (dm_rows k n (dm_push σ (.inr (6, n)))).1 = _
    rw [h1]
    show (σ.1 ++ [_]) ++ _ = _
    rw [List.append_assoc]; rfl
  · exact h2
theorem dm_mna_ce (n k : Nat) {cA' : Nat → ClassId} {q : Nat} (hq : q < σ.1.length) (hc : cA' q = cA q) (y : dm_Sh) : dm_ce base ext cA' (dm_mna n k σ) q y = dm_ce base ext cA σ q y := by
  have hq2 : q < (dm_push σ (.inr (6, n))).1.length := by simp [dm_push]; omega
  obtain ⟨h1, h2, h3⟩ := dm_rows_old (σ := dm_push σ (.inr (6, n))) k hq2 n
  have hne : q ≠ σ.1.length := Nat.ne_of_lt hq
  have e : dm_ce base ext cA' (dm_mna n k σ) q y = dm_ce base ext cA' σ q y := dm_ce_eq (σ := σ) (σ' := dm_mna n k σ) (h1.trans (dm_row_ne hne)) (h2.trans (dm_row_ne hne)) (show dm_row (dm_R (dm_rows k n (dm_push σ (.inr (6, n))))) σ.1.length (fun j => if j < n then .ref (σ.1.length + 1 + j) else .null) q = dm_R σ q from (dm_row_ne hne).trans (h3.trans (dm_row_ne hne))) y
  rw [e]
  cases y with
  | inl ci => rfl
  | inr y => obtain ⟨t, n⟩ := y; simp only [dm_ce, hc]
theorem dm_mna_ws (n k : Nat) (c1 c2 : ClassId) : dm_ws base ext (fun r => if r < σ.1.length then cA r else if r = σ.1.length then c1 else c2) (dm_mna n k σ) =
    (dm_ws base ext cA σ ++ [(base + σ.1.length, .inl (c1, n, .inr (.inr (.inr (.inr (fun i => if i < n then some (base + σ.1.length + 1 + i) else none))))))]) ++ ((List.range n).map (fun i => base + σ.1.length + 1 + i)).map (fun a => (a, .inl (c2, k, .inl (fun _ => 0)))) := by
  refine List.ext_getElem? fun i => ?_
  rw [List.append_assoc, List.getElem?_append, dm_ws_len]
  simp only [dm_ws, List.getElem?_mapIdx]
  show ((dm_mna n k σ).1[i]?).map _ = _
  rw [(dm_mna_sh n k).1, List.getElem?_append]
  by_cases hi : i < σ.1.length
  · rw [if_pos hi, if_pos hi]
    cases hq : σ.1[i]? with
    | none => rfl
    | some y => exact congrArg (fun z => some (base + i, z)) (dm_mna_ce (base := base) (ext := ext) (cA := cA) (cA' := fun r => if r < σ.1.length then cA r else if r = σ.1.length then c1 else c2) n k hi (if_pos hi) y)
  · rw [if_neg hi, if_neg hi]
    obtain ⟨j, rfl⟩ : ∃ j, i = σ.1.length + j := ⟨i - σ.1.length, by omega⟩
    rw [Nat.add_sub_cancel_left]
    have hR : ∀ r, dm_R (dm_mna n k σ) σ.1.length r = if r < n then .ref (σ.1.length + 1 + r) else .null := fun r => by
      show dm_row _ σ.1.length _ σ.1.length r = _
      rw [dm_row_eq]
    cases j with
    | zero =>
      simp only [List.getElem?_cons_zero, Option.map_some, Nat.add_zero, dm_ce, List.singleton_append, List.cons_append]
      simp only [Nat.lt_irrefl, if_false, if_true]
      congr 8
      refine congrArg Sum.inr (funext fun r => ?_)
      rw [hR r]
      by_cases hr : r < n
      · rw [if_pos hr, if_pos hr]; simp only [dm_ro, Nat.add_assoc]
      · rw [if_neg hr, if_neg hr]; rfl
    | succ j =>
      simp only [List.getElem?_cons_succ, List.singleton_append]
      rw [List.getElem?_map, List.getElem?_map]
      by_cases hj : j < n
      · rw [List.getElem?_replicate, if_pos hj, List.getElem?_range hj]
        simp only [Option.map_some, dm_ce]
        rw [if_neg (by omega), if_neg (by omega)]
        have hI : dm_I (dm_mna n k σ) (σ.1.length + (j + 1)) = fun _ => 0 := by
          have h := dm_rows_new (σ := dm_push σ (.inr (6, n))) k n j hj
          have hl : (dm_push σ (.inr (6, n))).1.length = σ.1.length + 1 := by simp [dm_push]
          rw [hl] at h
          rw [show σ.1.length + (j + 1) = σ.1.length + 1 + j by omega]
          exact h
        rw [hI, show base + (σ.1.length + (j + 1)) = base + σ.1.length + 1 + j by omega]
      · rw [List.getElem?_replicate, if_neg hj, List.getElem?_eq_none (by rw [List.length_range]; omega)]
        rfl
theorem dm_sum_rep (n k : Nat) : ((List.replicate n (.inr (0, k) : dm_Sh)).map dm_sz).sum = n * k := by
  induction n with
  | zero => simp
  | succ n ih => rw [List.replicate_succ, List.map_cons, List.sum_cons, ih, Nat.succ_mul]; simp [dm_sz]; omega
theorem dm_g_mna {ix : Nat} {w : Int} (Cx : dm_Cx p s m args c cc own nL S base D ext c0) (hlk : dm_tx (w.toNat) = some (.classLink own ix "[[I")) (hdg : decode cc pc = .ok (.multianewarray ix 2, 4)) {k n : Int32} {st1 : List Value} (hk0 : 0 ≤ k) (hk4 : k ≤ 4000) (hn0 : 0 < n) (hn4 : n ≤ 4000) (hg : σ.2.1.1 = 0) (hRc : dm_cost (dm_mna n.toNatClampNeg k.toNatClampNeg σ) ≤ c0 + R.cells) (hRs : dm_slo (dm_mna n.toNatClampNeg k.toNatClampNeg σ) ≤ s0 + R.slots) (kk : dm_Go p l e R s m args below meth c Q nL base D ext c0 s0 (pc + 4) ls (.ref σ.1.length :: st1) (dm_mna n.toNatClampNeg k.toNatClampNeg σ)) : dm_Go p l e R s m args below meth c Q nL base D ext c0 s0 pc ls (.int k :: .int n :: st1) σ := by
  intro cA H locs cells slots lsA hA
  obtain ⟨hx, hb, hml, hown, hts, hK, hsz⟩ := Cx
  refine dm_Wsz (fun hz => ?_)
  have hc := hA.2.2.2.1
  have hs := hA.2.2.2.2
  have hcost : dm_cost σ = σ.1.length := by simp only [dm_cost, hg, Nat.add_zero]
  have hN4 := dm_clamp hn4
  have hK4 := dm_clamp hk4
  have hge : base + σ.1.length ≤ H.size := by
    by_cases h0 : σ.1.length = 0
    · rw [h0]; exact Nat.le_trans hK.1 hA.2.1.1
    · obtain ⟨y, hy⟩ : ∃ y, σ.1[σ.1.length - 1]? = some y := ⟨_, List.getElem?_eq_getElem (by omega)⟩
      have h9 := dm_ws_at (base := base) (ext := ext) (cA := cA) (σ := σ) hy
      have := (hA.1.1 _ _ h9).lt
      simp only at this
      omega
  have hH : H.size = base + σ.1.length := by omega
  have e1 : dm_cost (dm_mna n.toNatClampNeg k.toNatClampNeg σ) = dm_cost σ + (1 + n.toNatClampNeg) := by
    simp only [dm_cost, (dm_mna_sh n.toNatClampNeg k.toNatClampNeg).1, (dm_mna_sh n.toNatClampNeg k.toNatClampNeg).2, List.length_append, List.length_cons, List.length_replicate]; omega
  have e2 : dm_slo (dm_mna n.toNatClampNeg k.toNatClampNeg σ) = dm_slo σ + (n.toNatClampNeg + n.toNatClampNeg * k.toNatClampNeg) := by
    simp only [dm_slo, (dm_mna_sh n.toNatClampNeg k.toNatClampNeg).1, (dm_mna_sh n.toNatClampNeg k.toNatClampNeg).2, List.map_append, List.sum_append, List.map_cons, List.sum_cons, dm_sum_rep]
    simp only [dm_sz]; omega
  intro T hT Xs
  obtain ⟨vm₁, c1, c2, hW9, fA, fC, hO, hI, X', step⟩ := Xs.multianewarray2F hx hown (ty := .int) (dm_tb hts hlk rfl) hK.2.2.2.2.2.2 (dm_tb hts (i := 109) (by decide +kernel) rfl) (g := F0 m pc lsA (.int k :: .int n :: dm_sm base ext st1)) rfl (by rw [hb]; exact hdg) rfl (Int32.not_lt.mpr (Int32.le_of_lt hn0)) (Int32.not_lt.mpr hk0) (by omega) (Nat.le_trans (Nat.mul_le_mul hK4 (show componentBytes .int ≤ 8 by decide)) (by decide)) (by omega) (by decide) (by decide) (by omega) (by omega)
  generalize hF : Jvm.Free.Multi.fill (T.setVm vm₁) c1 c2 n.toNatClampNeg k.toNatClampNeg (defaultValue .int) n.toNatClampNeg = F at X' step
  have hTh : (T.setVm vm₁).heap = H := hT
  obtain ⟨f1, f2, -, -⟩ := Jvm.Free.Multi.fill_facts (T.setVm vm₁) c1 c2 n.toNatClampNeg k.toNatClampNeg (defaultValue .int) n.toNatClampNeg
  rw [hF, hTh] at f1 f2
  have hold : ∀ x : Nat, x < H.size → F.heap[x]? = H[x]? := fun x hx => by
    have := Jvm.Free.Multi.fill_old (T.setVm vm₁) c1 c2 n.toNatClampNeg k.toNatClampNeg (defaultValue .int) (a := x) (by rw [hTh]; exact hx) n.toNatClampNeg
    rw [hF, hTh] at this
    exact this
  have hrow : ∀ j : Nat, j < n.toNatClampNeg → F.heap[H.size + 1 + j]? = some (vp_cell c2 (k.toNatClampNeg, .inl (fun _ => 0))) := fun j hj => by
    have := Jvm.Free.Multi.fill_inner (T.setVm vm₁) c1 c2 n.toNatClampNeg k.toNatClampNeg (defaultValue .int) n.toNatClampNeg j hj
    rw [hF, hTh] at this
    rw [this]
    show some ({ cls := c2, slots := Array.replicate k.toNatClampNeg (.int 0), vm := .none } : Cell) = _
    rw [arrV_new]
    rfl
  have hout : F.heap[H.size]? = some (vp_cell c1 (n.toNatClampNeg, .inr (.inr (.inr (.inr (fun i => if i < n.toNatClampNeg then some (H.size + 1 + i) else none)))))) := by
    rw [f2, vp_cell_q]
    exact congrArg some (dm_outer c1 n.toNatClampNeg H.size n.toNatClampNeg)
  have hP2 : va_P D dm_cl (dm_ws base ext (fun r => if r < σ.1.length then cA r else if r = σ.1.length then c1 else c2) (dm_mna n.toNatClampNeg k.toNatClampNeg σ)) F.heap := by
    rw [dm_mna_ws]
    refine va_P.app (va_P.app (hA.1.1.kept (fun k9 x hx9 => hold x.1 ((hA.1.1 k9 x hx9).lt))) (fun k9 x hx9 => ?_)) (fun k9 x hx9 => ?_)
    · have h0 : k9 < 1 := (List.getElem?_eq_some_iff.mp hx9).1
      rw [show k9 = 0 by omega] at hx9
      cases hx9
      rw [hH] at hout
      exact hout
    · obtain ⟨a, ha, rfl⟩ := List.mem_map.mp (List.mem_of_getElem? hx9)
      obtain ⟨i, hi, rfl⟩ := List.mem_map.mp ha
      have := hrow i (List.mem_range.mp hi)
      rw [hH] at this
      exact this
  have hArr : ∀ q t n9, (dm_sh (dm_mna n.toNatClampNeg k.toNatClampNeg σ))[q]? = some (.inr (t, n9)) → ArrOfT s (if q < σ.1.length then cA q else if q = σ.1.length then c1 else c2) (dm_at t) ∧ va_RA s (if q < σ.1.length then cA q else if q = σ.1.length then c1 else c2) (dm_at t) := by
    intro q t n9 hq
    have hq' : (σ.1 ++ (.inr (6, n.toNatClampNeg) :: List.replicate n.toNatClampNeg (.inr (0, k.toNatClampNeg))))[q]? = some (.inr (t, n9)) := by rw [← (dm_mna_sh n.toNatClampNeg k.toNatClampNeg).1]; exact hq
    rw [List.getElem?_append] at hq'
    by_cases hi : q < σ.1.length
    · rw [if_pos hi] at hq' ⊢
      exact hA.1.2 q t n9 hq'
    · rw [if_neg hi] at hq' ⊢
      obtain ⟨j, rfl⟩ : ∃ j, q = σ.1.length + j := ⟨q - σ.1.length, by omega⟩
      rw [Nat.add_sub_cancel_left] at hq'
      cases j with
      | zero =>
        cases hq'
        rw [if_pos (Nat.add_zero _)]
        refine ⟨fun N9 z9 => ?_, fA⟩
        obtain ⟨-, k9, hk9, cm9, hkk9⟩ := (hO 0 0 0).1
        exact ⟨(fun q hq => by cases hq), k9, hk9, cm9, hkk9⟩
      | succ j =>
        have hj := List.eq_of_mem_replicate (List.mem_of_getElem? hq')
        cases hj
        rw [if_neg (by omega)]
        refine ⟨fun N9 z9 => ?_, fC⟩
        obtain ⟨-, k9, hk9, cm9, hkk9⟩ := (hI 0 (.int 0)).1
        exact ⟨(fun q hq => by cases hq), k9, hk9, cm9, hkk9⟩
  obtain ⟨t, a1, b1⟩ := kk (fun r => if r < σ.1.length then cA r else if r = σ.1.length then c1 else c2) F.heap locs (cells + 1 + n.toNatClampNeg) (slots + n.toNatClampNeg + n.toNatClampNeg * k.toNatClampNeg) lsA ⟨⟨hP2, hArr⟩, ⟨by rw [f1]; have := hA.2.1.1; omega, fun x h1 h2 => (hold x (Nat.lt_of_lt_of_le h1 hA.2.1.1)).trans (hA.2.1.2.1 x h1 h2), hA.2.1.2.2⟩, hA.2.2.1, by omega, by omega⟩ F rfl X'
  refine ⟨t, step t ?_, b1⟩
  have e9 : T.heap.size = base + σ.1.length := by rw [hT, hH]
  rw [e9]
  exact a1
end DMM
