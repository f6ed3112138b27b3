/-! THE WORLD of the pure store: its cells stand at base, base + 1, ..; the outside things at ext j. -/
def dm_cv (base : Nat) (ext : Nat → Nat) (v : Value) : Value := match v with
  | .ref k => .ref (base + k)
  | .retAddr j => .ref (ext j)
  | .int x => .int x
  | .long x => .long x
  | .float x => .float x
  | .double x => .double x
  | .null => .null
def dm_ro (base : Nat) (ext : Nat → Nat) (v : Value) : Option Nat := match v with
  | .ref k => some (base + k)
  | .retAddr j => some (ext j)
  | _ => none
theorem dm_cv_cat (base : Nat) (ext : Nat → Nat) (v : Value) : (dm_cv base ext v).category = v.category := by cases v <;> rfl
theorem dm_rf {base : Nat} {ext : Nat → Nat} {v : Value} (h : dm_isRef v = true) : va_rf (dm_ro base ext v) = dm_cv base ext v := by
  cases v <;> first | rfl | (simp [dm_isRef] at h)
def dm_ce (base : Nat) (ext : Nat → Nat) (cA : Nat → ClassId) (σ : dm_St) (q : Nat) (x : dm_Sh) : va_E := match x with
  | .inl ci => .inr (ci, (List.range (dm_nf ci)).map (fun k => dm_cv base ext (dm_fv σ q ci k)))
  | .inr (t, n) => .inl (cA q, n, match t with
    | 0 => .inl (dm_I σ q)
    | 1 => .inr (.inl (dm_L σ q))
    | 2 => .inl (dm_I σ q)
    | 3 => .inl (dm_I σ q)
    | _ => .inr (.inr (.inr (.inr (fun i => dm_ro base ext (dm_R σ q i))))))
def dm_ws (base : Nat) (ext : Nat → Nat) (cA : Nat → ClassId) (σ : dm_St) : va_W := (dm_sh σ).mapIdx (fun q x => (base + q, dm_ce base ext cA σ q x))
theorem dm_ws_at {base : Nat} {ext : Nat → Nat} {cA : Nat → ClassId} {σ : dm_St} {q : Nat} {x : dm_Sh} (h : (dm_sh σ)[q]? = some x) : (dm_ws base ext cA σ)[q]? = some (base + q, dm_ce base ext cA σ q x) := by
  simp only [dm_ws, List.getElem?_mapIdx, h, Option.map_some]
theorem dm_ws_of {base : Nat} {ext : Nat → Nat} {cA : Nat → ClassId} {σ : dm_St} {q : Nat} {y : Nat × va_E} (h : (dm_ws base ext cA σ)[q]? = some y) : ∃ x, (dm_sh σ)[q]? = some x ∧ y = (base + q, dm_ce base ext cA σ q x) := by
  simp only [dm_ws, List.getElem?_mapIdx] at h
  cases hq : (dm_sh σ)[q]? with
  | none => rw [hq] at h; cases h
  | some x => rw [hq] at h; cases h; exact ⟨x, rfl, rfl⟩
theorem dm_D (base : Nat) (ext : Nat → Nat) (cA : Nat → ClassId) (σ : dm_St) : va_D (fun a => base ≤ a) (dm_ws base ext cA σ) := by
  refine ⟨fun i j a b hi hj hab => ?_, fun k q hk => ?_⟩
  · obtain ⟨x, -, rfl⟩ := dm_ws_of hi
    obtain ⟨y, -, rfl⟩ := dm_ws_of hj
    simp only at hab
    omega
  · obtain ⟨x, -, rfl⟩ := dm_ws_of hk
    exact Nat.le_add_right _ _
theorem dm_ws_len (base : Nat) (ext : Nat → Nat) (cA : Nat → ClassId) (σ : dm_St) : (dm_ws base ext cA σ).length = (dm_sh σ).length := by simp [dm_ws]
/-- one cell is another -/
theorem dm_ws_set {base : Nat} {ext : Nat → Nat} {cA : Nat → ClassId} {σ σ' : dm_St} {q : Nat} {x : dm_Sh} (h : (dm_sh σ)[q]? = some x) (hs : σ'.1 = σ.1) (ho : ∀ r y, r ≠ q → dm_ce base ext cA σ' r y = dm_ce base ext cA σ r y) :
    (dm_ws base ext cA σ).set q (base + q, dm_ce base ext cA σ' q x) = dm_ws base ext cA σ' := by
  have hq : q < (dm_sh σ).length := (List.getElem?_eq_some_iff.mp h).1
  refine List.ext_getElem? fun i => ?_
  rw [List.getElem?_set]
  by_cases e : q = i
  · subst e
    rw [if_pos rfl, if_pos (by rw [dm_ws_len]; exact hq), dm_ws_at (σ := σ') (x := x) (by show σ'.1[q]? = _; rw [hs]; exact h)]
  · rw [if_neg e]
    simp only [dm_ws, List.getElem?_mapIdx]
    show (σ.1[i]?).map _ = (σ'.1[i]?).map _
    rw [hs]
    cases σ.1[i]? with
    | none => rfl
    | some y => simp only [Option.map_some]; rw [ho i y (fun z => e z.symm)]
theorem dm_up_ne {α : Type} {f : Nat → Nat → α} {p i r : Nat} {v : α} (h : r ≠ p) : dm_up f p i v r = f r := by
  funext j
  simp [dm_up, h]
theorem dm_row_ne {α : Type} {f : Nat → Nat → α} {p r : Nat} {g : Nat → α} (h : r ≠ p) : dm_row f p g r = f r := by simp [dm_row, h]
theorem dm_row_eq {α : Type} {f : Nat → Nat → α} {p : Nat} {g : Nat → α} : dm_row f p g p = g := by simp [dm_row]
theorem dm_ce_eq {base : Nat} {ext : Nat → Nat} {cA : Nat → ClassId} {σ σ' : dm_St} {r : Nat} (h1 : dm_I σ' r = dm_I σ r) (h2 : dm_L σ' r = dm_L σ r) (h3 : dm_R σ' r = dm_R σ r) (y : dm_Sh) : dm_ce base ext cA σ' r y = dm_ce base ext cA σ r y := by
  have hv : ∀ ci k, dm_fv σ' r ci k = dm_fv σ r ci k := fun ci k => by simp only [dm_fv, h1, h2, h3]
  cases y with
  | inl ci => simp only [dm_ce, hv]
  | inr y => obtain ⟨t, n⟩ := y; simp only [dm_ce, h1, h2, h3]
/-- what is outside -/
abbrev dm_A (base : Nat) : Nat → Prop := fun a => base ≤ a
def dm_X (S : dm_Sc) (base : Nat) (ext : Nat → Nat) (U : State) (H : Heap) : Prop :=
  (∀ j, j < 37 → va_Z dm_RW (dm_names.getD j "") dm_dW (.ref (ext j)) (dm_A base) U H ∧ va_OF dm_RW "code" "J" (.long (dm_codes.getD j 0)) (ext j) (dm_A base) U H ∧ va_OF dm_RW "reserved" "Z" (.int (dm_res j)) (ext j) (dm_A base) U H) ∧
  (∀ i j, i < 37 → j < 37 → ext i = ext j → i = j) ∧
  (va_Z dm_RW "ALL" "[LPulseRent$Word;" (.ref (ext 100)) (dm_A base) U H ∧ va_T (.object dm_RW) (ext 100) 37 (fun j => .ref (ext j)) (dm_A base) U H) ∧
  (va_X (ext 200) S.1 S.2 U H ∧ ext 200 < base ∧ ext 200 < H.size) ∧
  vk_R RX9 55 "()<=+-*;" (ext 300) U ∧
  va_Z RJ0 "COMPACT_STRINGS" "Z" (.int 1) (dm_A base) U H ∧ va_O RJ0 (ext 300) (dm_A base) U H ∧ va_OF RJ0 "coder" "B" (.int 0) (ext 300) (dm_A base) U H ∧ va_OF RJ0 "value" "[B" (.ref (ext 301)) (ext 300) (dm_A base) U H ∧ va_T .byte (ext 301) 8 (fun j => .int (dm_bytes.getD j 0)) (dm_A base) U H
theorem dm_X.warm {S : dm_Sc} {base : Nat} {ext : Nat → Nat} {u U : State} {H : Heap} (hW : u.WarmedH U.vm) (h : dm_X S base ext u H) : dm_X S base ext U H := by
  obtain ⟨h1, h2, ⟨h3, h4⟩, ⟨h5, h6, h7⟩, h8, h9, h10, h11, h12, h13⟩ := h
  exact ⟨fun j hj => ⟨(h1 j hj).1.moved hW.alike, (h1 j hj).2.1.moved hW.alike, (h1 j hj).2.2.moved hW.alike⟩, h2, ⟨h3.moved hW.alike, h4.moved hW.alike⟩, ⟨h5.moved hW.alike, h6, h7⟩, h8.warm hW, h9.moved hW.alike, h10.moved hW.alike, h11.moved hW.alike, h12.moved hW.alike, h13.moved hW.alike⟩
theorem dm_X.same {S : dm_Sc} {base : Nat} {ext : Nat → Nat} {u U : State} {H : Heap} (hv : U.vm = u.vm) (h : dm_X S base ext u H) : dm_X S base ext U H := by
  have ha : u.vm.Alike U.vm := by rw [hv]; exact Vm.Alike.refl u.vm
  obtain ⟨h1, h2, ⟨h3, h4⟩, ⟨h5, h6, h7⟩, h8, h9, h10, h11, h12, h13⟩ := h
  exact ⟨fun j hj => ⟨(h1 j hj).1.moved ha, (h1 j hj).2.1.moved ha, (h1 j hj).2.2.moved ha⟩, h2, ⟨h3.moved ha, h4.moved ha⟩, ⟨h5.moved ha, h6, h7⟩, h8.same hv, h9.moved ha, h10.moved ha, h11.moved ha, h12.moved ha, h13.moved ha⟩
theorem dm_X.kept {S : dm_Sc} {base : Nat} {ext : Nat → Nat} {U : State} {H H1 : Heap} (h : dm_X S base ext U H) (hz : H.size ≤ H1.size) (hq : ∀ a : Nat, a < H.size → ¬ dm_A base a → H1[a]? = H[a]?) : dm_X S base ext U H1 := by
  obtain ⟨h1, h2, ⟨h3, h4⟩, ⟨h5, h6, h7⟩, h8, h9, h10, h11, h12, h13⟩ := h
  exact ⟨fun j hj => ⟨(h1 j hj).1.kept hq, (h1 j hj).2.1.kept hq, (h1 j hj).2.2.kept hq⟩, h2, ⟨h3.kept hq, h4.kept hq⟩, ⟨h5.kept (hq _ h7 (Nat.not_le.mpr h6)), h6, Nat.lt_of_lt_of_le h7 hz⟩, h8, h9.kept hq, h10.kept hq, h11.kept hq, h12.kept hq, h13.kept hq⟩
/-- what holds of the machine's tables and of the outside at a method's entry -/
def dm_AO (U : State) : Prop := va_AO RX6 U ∧ va_AO RX7 U ∧ (Cond.arrayOver (.array .int)).before #[] U = true
theorem dm_AO.moved {u U : State} (ha : u.vm.Alike U.vm) (h : dm_AO u) : dm_AO U := ⟨h.1.moved ha, h.2.1.moved ha, arrayOver_alikeB ha h.2.2⟩
def dm_K (S : dm_Sc) (base : Nat) (D : va_G) (ext : Nat → Nat) (U : State) (H : Heap) : Prop := base ≤ H.size ∧ va_K D dm_cl [] U ∧ (∀ w ∈ dm_nw, va_Nw w U) ∧ dm_X S base ext U H ∧ dm_AO U
theorem dm_nw_kind : ∀ w ∈ dm_nw, (∃ a i b n d h, w = .fieldLinkNest a i b n d h) ∨ ∃ a i x h, w = .methodLinkNest a i x h := by
  intro w hw
  unfold dm_nw at hw
  repeat (rcases List.mem_cons.mp hw with rfl | hw; · first | exact Or.inl ⟨_, _, _, _, _, _, rfl⟩ | exact Or.inr ⟨_, _, _, _, rfl⟩)
  exact absurd hw List.not_mem_nil
theorem dm_K.warm {S : dm_Sc} {base : Nat} {D : va_G} {ext : Nat → Nat} {u U : State} {H : Heap} (hW : u.WarmedH U.vm) (h : dm_K S base D ext u H) : dm_K S base D ext U H := by
  obtain ⟨h1, h2, h3, h4, h5⟩ := h
  refine ⟨h1, va_K.moved hW.alike h2, fun w hw => ?_, h4.warm hW, h5.moved hW.alike⟩
  have := h3 w hw
  rcases dm_nw_kind w hw with ⟨a, i, b, n, d, h, rfl⟩ | ⟨a, i, x, h, rfl⟩
  · exact va_Nw.warmF hW this
  · exact va_Nw.warmM hW this
theorem dm_K.same {S : dm_Sc} {base : Nat} {D : va_G} {ext : Nat → Nat} {u U : State} {H : Heap} (hv : U.vm = u.vm) (h : dm_K S base D ext u H) : dm_K S base D ext U H := by
  obtain ⟨h1, h2, h3, h4, h5⟩ := h
  refine ⟨h1, va_K.moved (by rw [hv]; exact Vm.Alike.refl u.vm) h2, fun w hw => ?_, h4.same hv, h5.moved (by rw [hv]; exact Vm.Alike.refl u.vm)⟩
  have := h3 w hw
  rcases dm_nw_kind w hw with ⟨a, i, b, n, d, h, rfl⟩ | ⟨a, i, x, h, rfl⟩
  · exact va_Nw.same rfl hv.symm this
  · exact va_Nw.same rfl hv.symm this
theorem dm_K.kept {S : dm_Sc} {base : Nat} {D : va_G} {ext : Nat → Nat} {U : State} {H H1 : Heap} (h : dm_K S base D ext U H) (hz : H.size ≤ H1.size) (hq : ∀ a : Nat, a < H.size → ¬ dm_A base a → H1[a]? = H[a]?) : dm_K S base D ext U H1 :=
  ⟨Nat.le_trans h.1 hz, h.2.1, h.2.2.1, h.2.2.2.1.kept hz hq, h.2.2.2.2⟩
/-- the cells, and what class each array is of -/
def dm_Wd (base : Nat) (D : va_G) (ext : Nat → Nat) (cA : Nat → ClassId) (σ : dm_St) (U : State) (H : Heap) : Prop :=
  va_P D dm_cl (dm_ws base ext cA σ) H ∧ ∀ q t n, (dm_sh σ)[q]? = some (.inr (t, n)) → ArrOfT U (cA q) (dm_at t) ∧ va_RA U (cA q) (dm_at t)
theorem dm_Wd.moved {base : Nat} {D : va_G} {ext : Nat → Nat} {cA : Nat → ClassId} {σ : dm_St} {u U : State} {H : Heap} (ha : u.vm.Alike U.vm) (h : dm_Wd base D ext cA σ u H) : dm_Wd base D ext cA σ U H :=
  ⟨h.1, fun q t n hq => ⟨arrOfT_moved ha (h.2 q t n hq).1, (h.2 q t n hq).2.moved ha⟩⟩
/-- the words that go down into every call -/
def dm_GW : List Cond := lw_tbl.filter goodWord
theorem dm_tb {args : Array Value} {s : State} (hts : ∀ w ∈ dm_GW, w.before args s = true) {i : Nat} {w : Cond} (h : dm_tx (i) = some w) (hg : goodWord w = true) : w.before args s = true :=
  hts w (List.mem_filter.mpr ⟨List.mem_append_right _ (dm_tx_mem h), hg⟩)
theorem dm_Kty {base : Nat} {D : va_G} {ext : Nat → Nat} {cA : Nat → ClassId} {σ : dm_St} {s : State} {H : Heap} {S : dm_Sc} {H0 : Heap} (hK : dm_K S base D ext s H0) (hW : dm_Wd base D ext cA σ s H) {q t n : Nat} (h : (dm_sh σ)[q]? = some (.inr (t, n))) : va_K D dm_cl [(cA q, dm_at t)] s :=
  ⟨hK.2.1.1, fun k x hk => by
    match k, hk with
    | 0, hk => cases hk; exact hW.2 q t n h
    | k + 1, hk => simp at hk⟩
