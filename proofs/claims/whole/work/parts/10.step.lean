/-! ONE INSTRUCTION of the pure machine is one of the machine's. -/
def dm_sz (x : dm_Sh) : Nat := match x with
  | .inl ci => dm_nf ci
  | .inr (_, n) => n
def dm_cost (σ : dm_St) : Nat := σ.1.length + σ.2.1.1
def dm_slo (σ : dm_St) : Nat := (σ.1.map dm_sz).sum + σ.2.1.2
abbrev dm_lm (base : Nat) (ext : Nat → Nat) (ls : dm_Lv) : List (Nat × Value) := ls.map (fun q => (q.1, dm_cv base ext q.2))
abbrev dm_sm (base : Nat) (ext : Nat → Nat) (st : List Value) : List Value := st.map (dm_cv base ext)
theorem dm_in_iff {i : Int32} {n : Nat} : dm_in i n = true ↔ vp_in i n := by
  simp only [dm_in, vp_in, Bool.not_eq_true', Bool.or_eq_false_iff, decide_eq_false_iff_not, not_or]
theorem dm_get_mem {ls : dm_Lv} {i : Nat} {v : Value} (h : dm_get ls i = some v) : (i, v) ∈ ls := by
  unfold dm_get at h
  cases hf : ls.find? (fun q => q.1 == i) with
  | none => rw [hf] at h; cases h
  | some q =>
    rw [hf] at h
    cases h
    have h1 := List.find?_some hf
    have h2 := List.mem_of_find?_eq_some hf
    have h3 : q.1 = i := by simpa using h1
    rw [← h3]
    exact h2
theorem dm_lget {base : Nat} {ext : Nat → Nat} {ls : dm_Lv} {lsA : Array Slot} {nL i : Nat} {v : Value} (hl : lv_has lsA nL (dm_lm base ext ls)) (h : dm_get ls i = some v) : lsA[i]? = some (.val (dm_cv base ext v)) :=
  hl.2.2 (i, dm_cv base ext v) (List.mem_map.mpr ⟨(i, v), dm_get_mem h, rfl⟩)
theorem dm_lput1 (base : Nat) (ext : Nat → Nat) (ls : dm_Lv) (i : Nat) (v : Value) : (i, dm_cv base ext v) :: (dm_lm base ext ls).filter (fun q => !(q.1 == i) && !(q.1 + 1 == i && q.2.category == 2)) = dm_lm base ext (dm_put1 ls i v) := by
  simp only [dm_put1, dm_lm, List.map_cons, List.filter_map]
  congr 2
  refine List.filter_congr fun q _ => ?_
  simp [dm_cv_cat]
theorem dm_lput2 (base : Nat) (ext : Nat → Nat) (ls : dm_Lv) (i : Nat) (v : Value) : (i, dm_cv base ext v) :: (dm_lm base ext ls).filter (fun q => !(q.1 == i) && (!(q.1 == i + 1) && !(q.1 + 1 == i && q.2.category == 2))) = dm_lm base ext (dm_put2 ls i v) := by
  simp only [dm_put2, dm_lm, List.map_cons, List.filter_map]
  congr 2
  refine List.filter_congr fun q _ => ?_
  simp [dm_cv_cat]
theorem dm_fits_ok {ty : FieldType} {v : Int32} (h : dm_fits ty v = true) : narrow ty (.int v) = .int v ∧ fits ty (.int v) = true := by
  cases ty with
  | int => exact ⟨rfl, rfl⟩
  | boolean =>
    simp only [dm_fits, Bool.or_eq_true, beq_iff_eq] at h
    rcases h with rfl | rfl <;> exact ⟨by decide, by decide⟩
  | byte =>
    simp only [dm_fits, beq_iff_eq] at h
    subst h
    exact ⟨by decide, by decide⟩
  | char =>
    simp only [dm_fits, Bool.and_eq_true, decide_eq_true_eq] at h
    obtain ⟨h1, h2⟩ := h
    obtain ⟨j, hj, rfl⟩ := nI_of (x := v) (by rw [Int32.not_lt]; exact h1)
    have hj2 : j < 65536 := by
      have : nI j < nI 65536 := h2
      exact (nI_ltI hj (by decide)).mp this
    exact pk_charN hj2
  | _ => simp [dm_fits] at h
section DMS
variable {p : Program} {l : Launch} {e : Env} {R : Room} {s : State} {m : MethodId} {args : Array Value} {below : List Frame} {meth : Method} {c : Code} {H : Heap} {locs : List Loc} {cells slots : Nat} {Q : State → Prop}
variable {cc : ByteArray} {own : String} {nL : Nat} {S : dm_Sc} {base : Nat} {D : va_G} {ext : Nat → Nat} {cA : Nat → ClassId} {σ σ' : dm_St} {ls ls' : dm_Lv} {st st' : List Value} {lsA : Array Slot} {pc c0 s0 : Nat}
/-- what stands still through a body -/
def dm_Cx (p : Program) (s : State) (m : MethodId) (args : Array Value) (c : Code) (cc : ByteArray) (own : String) (nL : Nat) (S : dm_Sc) (base : Nat) (D : va_G) (ext : Nat → Nat) (c0 : Nat) : Prop :=
  p.tables.exec = Jvm.exec ∧ c.code = cc ∧ c.maxLocals = nL ∧ s.vm.findClass own = some m.cls ∧ (∀ w ∈ dm_GW, w.before args s = true) ∧ dm_K S base D ext s s.heap ∧ s.heap.size ≤ base + c0
/-- what holds between the machine and the pure one at a frame -/
def dm_At (s : State) (nL base : Nat) (D : va_G) (ext : Nat → Nat) (c0 s0 : Nat) (cA : Nat → ClassId) (σ : dm_St) (ls : dm_Lv) (H : Heap) (locs : List Loc) (cells slots : Nat) (lsA : Array Slot) : Prop :=
  dm_Wd base D ext cA σ s H ∧ va_S (dm_A base) s.heap H locs ∧ lv_has lsA nL (dm_lm base ext ls) ∧ cells + c0 = dm_cost σ ∧ slots + s0 = dm_slo σ
/-- the machine goes on from here, whatever stands there -/
abbrev dm_Go (p : Program) (l : Launch) (e : Env) (R : Room) (s : State) (m : MethodId) (args : Array Value) (below : List Frame) (meth : Method) (c : Code) (Q : State → Prop) (nL base : Nat) (D : va_G) (ext : Nat → Nat) (c0 s0 pc : Nat) (ls : dm_Lv) (st : List Value) (σ : dm_St) : Prop :=
  ∀ (cA : Nat → ClassId) (H : Heap) (locs : List Loc) (cells slots : Nat) (lsA : Array Slot), dm_At s nL base D ext c0 s0 cA σ ls H locs cells slots lsA → W p l e R s m args below meth c H locs cells slots Q (F0 m pc lsA (dm_sm base ext st))
theorem dm_g_ld {i n : Nat} {ok : Value → Bool} (h : dm_ld ls st σ i ok = some (ls', st', σ')) (kk : dm_Go p l e R s m args below meth c Q nL base D ext c0 s0 (pc + n) ls' st' σ')
    (row : ∀ (H : Heap) (locs : List Loc) (cells slots : Nat) (lsA : Array Slot) (v : Value), ok v = true → lsA[i]? = some (.val (dm_cv base ext v)) → ∀ rest, W p l e R s m args below meth c H locs cells slots Q (F0 m (pc + n) lsA (dm_cv base ext v :: rest)) → W p l e R s m args below meth c H locs cells slots Q (F0 m pc lsA rest)) : dm_Go p l e R s m args below meth c Q nL base D ext c0 s0 pc ls st σ := by
  intro cA H locs cells slots lsA hA
  unfold dm_ld at h
  split at h
  · rename_i v hv
    split at h
    · rename_i hok
      cases h
      exact row H locs cells slots lsA v hok (dm_lget hA.2.2.1 hv) _ (kk cA H locs cells slots lsA hA)
    · cases h
  · cases h
theorem dm_g_st1 {i n : Nat} {ok : Value → Bool} (h : dm_st1 ls st σ i ok = some (ls', st', σ')) (kk : dm_Go p l e R s m args below meth c Q nL base D ext c0 s0 (pc + n) ls' st' σ')
    (row : ∀ (H : Heap) (locs : List Loc) (cells slots : Nat) (lsA : Array Slot) (v : Value) (lv : List (Nat × Value)), ok v = true → lv_has lsA nL lv → ∀ rest, (∀ lsB : Array Slot, lv_has lsB nL ((i, dm_cv base ext v) :: lv.filter (fun q => !(q.1 == i) && !(q.1 + 1 == i && q.2.category == 2))) → W p l e R s m args below meth c H locs cells slots Q (F0 m (pc + n) lsB rest)) → W p l e R s m args below meth c H locs cells slots Q (F0 m pc lsA (dm_cv base ext v :: rest))) : dm_Go p l e R s m args below meth c Q nL base D ext c0 s0 pc ls st σ := by
  intro cA H locs cells slots lsA hA
  unfold dm_st1 at h
  split at h
  · rename_i v st1
    split at h
    · rename_i hok
      cases h
      refine row H locs cells slots lsA v _ hok hA.2.2.1 _ (fun lsB hB => ?_)
      rw [dm_lput1] at hB
      exact kk cA H locs cells slots lsB ⟨hA.1, hA.2.1, hB, hA.2.2.2⟩
    · cases h
  · cases h
theorem dm_g_st2 {i n : Nat} (h : dm_st2 ls st σ i = some (ls', st', σ')) (kk : dm_Go p l e R s m args below meth c Q nL base D ext c0 s0 (pc + n) ls' st' σ')
    (row : ∀ (H : Heap) (locs : List Loc) (cells slots : Nat) (lsA : Array Slot) (v : Int64) (lv : List (Nat × Value)), lv_has lsA nL lv → ∀ rest, (∀ lsB : Array Slot, lv_has lsB nL ((i, Value.long v) :: lv.filter (fun q => !(q.1 == i) && (!(q.1 == i + 1) && !(q.1 + 1 == i && q.2.category == 2)))) → W p l e R s m args below meth c H locs cells slots Q (F0 m (pc + n) lsB rest)) → W p l e R s m args below meth c H locs cells slots Q (F0 m pc lsA (.long v :: rest))) : dm_Go p l e R s m args below meth c Q nL base D ext c0 s0 pc ls st σ := by
  intro cA H locs cells slots lsA hA
  unfold dm_st2 at h
  split at h
  · rename_i v st1
    cases h
    refine row H locs cells slots lsA v _ hA.2.2.1 _ (fun lsB hB => ?_)
    have hB2 := dm_lput2 base ext ls i (.long v)
    rw [show dm_cv base ext (.long v) = .long v from rfl] at hB2
    rw [hB2] at hB
    exact kk cA H locs cells slots lsB ⟨hA.1, hA.2.1, hB, hA.2.2.2⟩
  · cases h
theorem dm_g_b {f : Int32 → Int32 → Int32} {n : Nat} (h : dm_b ls st σ f = some (ls', st', σ')) (kk : dm_Go p l e R s m args below meth c Q nL base D ext c0 s0 (pc + n) ls' st' σ')
    (row : ∀ (H : Heap) (locs : List Loc) (cells slots : Nat) (lsA : Array Slot) (x y : Int32) rest, W p l e R s m args below meth c H locs cells slots Q (F0 m (pc + n) lsA (.int (f x y) :: rest)) → W p l e R s m args below meth c H locs cells slots Q (F0 m pc lsA (.int y :: .int x :: rest))) : dm_Go p l e R s m args below meth c Q nL base D ext c0 s0 pc ls st σ := by
  intro cA H locs cells slots lsA hA
  unfold dm_b at h
  split at h
  · cases h
    exact row H locs cells slots lsA _ _ _ (kk cA H locs cells slots lsA hA)
  · cases h
theorem dm_g_b0 {f : Int32 → Int32 → Int32} {n : Nat} (h : dm_b0 ls st σ f = some (ls', st', σ')) (kk : dm_Go p l e R s m args below meth c Q nL base D ext c0 s0 (pc + n) ls' st' σ')
    (row : ∀ (H : Heap) (locs : List Loc) (cells slots : Nat) (lsA : Array Slot) (x y : Int32) rest, ¬ y = 0 → W p l e R s m args below meth c H locs cells slots Q (F0 m (pc + n) lsA (.int (f x y) :: rest)) → W p l e R s m args below meth c H locs cells slots Q (F0 m pc lsA (.int y :: .int x :: rest))) : dm_Go p l e R s m args below meth c Q nL base D ext c0 s0 pc ls st σ := by
  intro cA H locs cells slots lsA hA
  unfold dm_b0 at h
  split at h
  · split at h
    · cases h
    · rename_i hy
      cases h
      exact row H locs cells slots lsA _ _ _ hy (kk cA H locs cells slots lsA hA)
  · cases h
theorem dm_g_bl {f : Int64 → Int64 → Int64} {n : Nat} (h : dm_bl ls st σ f = some (ls', st', σ')) (kk : dm_Go p l e R s m args below meth c Q nL base D ext c0 s0 (pc + n) ls' st' σ')
    (row : ∀ (H : Heap) (locs : List Loc) (cells slots : Nat) (lsA : Array Slot) (x y : Int64) rest, W p l e R s m args below meth c H locs cells slots Q (F0 m (pc + n) lsA (.long (f x y) :: rest)) → W p l e R s m args below meth c H locs cells slots Q (F0 m pc lsA (.long y :: .long x :: rest))) : dm_Go p l e R s m args below meth c Q nL base D ext c0 s0 pc ls st σ := by
  intro cA H locs cells slots lsA hA
  unfold dm_bl at h
  split at h
  · cases h
    exact row H locs cells slots lsA _ _ _ (kk cA H locs cells slots lsA hA)
  · cases h
theorem dm_g_bl0 {f : Int64 → Int64 → Int64} {n : Nat} (h : dm_bl0 ls st σ f = some (ls', st', σ')) (kk : dm_Go p l e R s m args below meth c Q nL base D ext c0 s0 (pc + n) ls' st' σ')
    (row : ∀ (H : Heap) (locs : List Loc) (cells slots : Nat) (lsA : Array Slot) (x y : Int64) rest, ¬ y = 0 → W p l e R s m args below meth c H locs cells slots Q (F0 m (pc + n) lsA (.long (f x y) :: rest)) → W p l e R s m args below meth c H locs cells slots Q (F0 m pc lsA (.long y :: .long x :: rest))) : dm_Go p l e R s m args below meth c Q nL base D ext c0 s0 pc ls st σ := by
  intro cA H locs cells slots lsA hA
  unfold dm_bl0 at h
  split at h
  · split at h
    · cases h
    · rename_i hy
      cases h
      exact row H locs cells slots lsA _ _ _ hy (kk cA H locs cells slots lsA hA)
  · cases h
theorem dm_g_bs {f : Int64 → Int32 → Int64} {n : Nat} (h : dm_bs ls st σ f = some (ls', st', σ')) (kk : dm_Go p l e R s m args below meth c Q nL base D ext c0 s0 (pc + n) ls' st' σ')
    (row : ∀ (H : Heap) (locs : List Loc) (cells slots : Nat) (lsA : Array Slot) (x : Int64) (y : Int32) rest, W p l e R s m args below meth c H locs cells slots Q (F0 m (pc + n) lsA (.long (f x y) :: rest)) → W p l e R s m args below meth c H locs cells slots Q (F0 m pc lsA (.int y :: .long x :: rest))) : dm_Go p l e R s m args below meth c Q nL base D ext c0 s0 pc ls st σ := by
  intro cA H locs cells slots lsA hA
  unfold dm_bs at h
  split at h
  · cases h
    exact row H locs cells slots lsA _ _ _ (kk cA H locs cells slots lsA hA)
  · cases h
end DMS
