/-! Places under other names: a run is the same. -/
section RNM
/-- other names for the first 312 places -/
def PhO (ph : Nat → Nat) : Prop := (∀ p q, ph p = ph q → p = q) ∧ (∀ p, 312 ≤ p → ph p = p) ∧ (∀ p, p < 312 → ph p < 312)
def rv (ph : Nat → Nat) (v : Value) : Value := match v with
  | .ref p => .ref (ph p)
  | v => v
def rs (ph : Nat → Nat) (st : List Value) : List Value := st.map (rv ph)
def rl (ph : Nat → Nat) (ls : dm_Lv) : dm_Lv := ls.map (fun q => (q.1, rv ph q.2))
def RN (ph : Nat → Nat) (σ τ : dm_St) : Prop := 312 ≤ σ.1.length ∧ τ.1.length = σ.1.length ∧ (∀ p : Nat, τ.1[ph p]? = σ.1[p]?) ∧ τ.2.1 = σ.2.1 ∧ (∀ p k, τ.2.2.1 (ph p) k = σ.2.2.1 p k) ∧ (∀ p k, τ.2.2.2.1 (ph p) k = σ.2.2.2.1 p k) ∧ (∀ p k, τ.2.2.2.2 (ph p) k = rv ph (σ.2.2.2.2 p k))
variable {ph : Nat → Nat}
theorem rv_cat (v : Value) : (rv ph v).category = v.category := by cases v <;> rfl
theorem rv_kI (v : Value) : dm_kI (rv ph v) = dm_kI v := by cases v <;> rfl
theorem rv_kL (v : Value) : dm_kL (rv ph v) = dm_kL v := by cases v <;> rfl
theorem rv_kA (v : Value) : dm_kA (rv ph v) = dm_kA v := by cases v <;> rfl
theorem rv_isRef (v : Value) : dm_isRef (rv ph v) = dm_isRef v := by cases v <;> rfl
theorem rl_get (ls : dm_Lv) (i : Nat) : dm_get (rl ph ls) i = (dm_get ls i).map (rv ph) := by
  unfold dm_get rl
  rw [List.find?_map, Option.map_map, Option.map_map]
  try rfl
theorem rl_put1 (ls : dm_Lv) (i : Nat) (v : Value) : dm_put1 (rl ph ls) i (rv ph v) = rl ph (dm_put1 ls i v) := by
  unfold dm_put1 rl
  rw [List.map_cons, List.filter_map]
  congr 3
  funext q
  simp only [Function.comp, rv_cat]
theorem rl_put2 (ls : dm_Lv) (i : Nat) (v : Value) : dm_put2 (rl ph ls) i (rv ph v) = rl ph (dm_put2 ls i v) := by
  unfold dm_put2 rl
  rw [List.map_cons, List.filter_map]
  congr 3
  funext q
  simp only [Function.comp, rv_cat]
theorem rs_wait (st : List Value) : dm_wait (rs ph st) = dm_wait st := by
  unfold dm_wait rs
  rw [List.map_map]
  congr 2
  exact List.map_congr_left (fun v _ => rv_cat v)
/-- a move is the same move -/
def MR (ph : Nat → Nat) (x : dm_Mv) (o : Option dm_Mv) : Prop := ∃ τ', o = some (rl ph x.1, rs ph x.2.1, τ') ∧ RN ph x.2.2 τ'
variable {S : dm_Sc} {σ τ : dm_St} {ls : dm_Lv} {st : List Value} {x : dm_Mv}
theorem RN.upI (hp : PhO ph) (hr : RN ph σ τ) (q i : Nat) (v : Int32) : RN ph (dm_setI σ (dm_up (dm_I σ) q i v)) (dm_setI τ (dm_up (dm_I τ) (ph q) i v)) := by
  refine ⟨hr.1, hr.2.1, hr.2.2.1, hr.2.2.2.1, fun p k => ?_, hr.2.2.2.2.2.1, hr.2.2.2.2.2.2⟩
  show dm_up (dm_I τ) (ph q) i v (ph p) k = dm_up (dm_I σ) q i v p k
  unfold dm_up
  by_cases h : p = q ∧ k = i
  · rw [if_pos h, if_pos ⟨by rw [h.1], h.2⟩]
  · rw [if_neg h, if_neg (fun z => h ⟨hp.1 _ _ z.1, z.2⟩)]; exact hr.2.2.2.2.1 p k
theorem RN.upL (hp : PhO ph) (hr : RN ph σ τ) (q i : Nat) (v : Int64) : RN ph (dm_setL σ (dm_up (dm_L σ) q i v)) (dm_setL τ (dm_up (dm_L τ) (ph q) i v)) := by
  refine ⟨hr.1, hr.2.1, hr.2.2.1, hr.2.2.2.1, hr.2.2.2.2.1, fun p k => ?_, hr.2.2.2.2.2.2⟩
  show dm_up (dm_L τ) (ph q) i v (ph p) k = dm_up (dm_L σ) q i v p k
  unfold dm_up
  by_cases h : p = q ∧ k = i
  · rw [if_pos h, if_pos ⟨by rw [h.1], h.2⟩]
  · rw [if_neg h, if_neg (fun z => h ⟨hp.1 _ _ z.1, z.2⟩)]; exact hr.2.2.2.2.2.1 p k
theorem RN.upR (hp : PhO ph) (hr : RN ph σ τ) (q i : Nat) (v : Value) : RN ph (dm_setR σ (dm_up (dm_R σ) q i v)) (dm_setR τ (dm_up (dm_R τ) (ph q) i (rv ph v))) := by
  refine ⟨hr.1, hr.2.1, hr.2.2.1, hr.2.2.2.1, hr.2.2.2.2.1, hr.2.2.2.2.2.1, fun p k => ?_⟩
  show dm_up (dm_R τ) (ph q) i (rv ph v) (ph p) k = rv ph (dm_up (dm_R σ) q i v p k)
  unfold dm_up
  by_cases h : p = q ∧ k = i
  · rw [if_pos h, if_pos ⟨by rw [h.1], h.2⟩]
  · rw [if_neg h, if_neg (fun z => h ⟨hp.1 _ _ z.1, z.2⟩)]; exact hr.2.2.2.2.2.2 p k
theorem RN.rowI (hp : PhO ph) (hr : RN ph σ τ) (q : Nat) {f f' : Nat → Int32} (e : f' = f) : RN ph (dm_setI σ (dm_row (dm_I σ) q f)) (dm_setI τ (dm_row (dm_I τ) (ph q) f')) := by
  subst e
  refine ⟨hr.1, hr.2.1, hr.2.2.1, hr.2.2.2.1, fun p k => ?_, hr.2.2.2.2.2.1, hr.2.2.2.2.2.2⟩
  show dm_row (dm_I τ) (ph q) f' (ph p) k = dm_row (dm_I σ) q f' p k
  unfold dm_row
  by_cases h : p = q
  · rw [if_pos h, if_pos (by rw [h])]
  · rw [if_neg h, if_neg (fun z => h (hp.1 _ _ z))]; exact hr.2.2.2.2.1 p k
theorem RN.len (hr : RN ph σ τ) (hp : PhO ph) : ph σ.1.length = τ.1.length := by rw [hp.2.1 _ hr.1, hr.2.1]
theorem RN.push (hp : PhO ph) (hr : RN ph σ τ) (y : dm_Sh) : RN ph (dm_push σ y) (dm_push τ y) := by
  have hl := hr.len hp
  have h2 := hr.2.1
  have h1 := hr.1
  refine ⟨by show 312 ≤ (σ.1 ++ [y]).length; rw [List.length_append]; omega, by show (τ.1 ++ [y]).length = (σ.1 ++ [y]).length; rw [List.length_append, List.length_append, h2], fun p => ?_, hr.2.2.2.1, fun p k => ?_, fun p k => ?_, fun p k => ?_⟩
  · show (τ.1 ++ [y])[ph p]? = (σ.1 ++ [y])[p]?
    by_cases h : p < σ.1.length
    · have h' : ph p < τ.1.length := by
        rw [h2]
        by_cases h3 : p < 312
        · have := hp.2.2 p h3; omega
        · rw [hp.2.1 p (by omega)]; exact h
      rw [List.getElem?_append_left h, List.getElem?_append_left h']; exact hr.2.2.1 p
    · rw [hp.2.1 p (by omega), List.getElem?_append_right (by omega), List.getElem?_append_right (by omega), h2]
  · show dm_row τ.2.2.1 τ.1.length (fun _ => 0) (ph p) k = dm_row σ.2.2.1 σ.1.length (fun _ => 0) p k
    unfold dm_row
    by_cases h : p = σ.1.length
    · rw [if_pos h, if_pos (by rw [h, hl])]
    · rw [if_neg h, if_neg (fun z => h (hp.1 _ _ (z.trans hl.symm)))]; exact hr.2.2.2.2.1 p k
  · show dm_row τ.2.2.2.1 τ.1.length (fun _ => 0) (ph p) k = dm_row σ.2.2.2.1 σ.1.length (fun _ => 0) p k
    unfold dm_row
    by_cases h : p = σ.1.length
    · rw [if_pos h, if_pos (by rw [h, hl])]
    · rw [if_neg h, if_neg (fun z => h (hp.1 _ _ (z.trans hl.symm)))]; exact hr.2.2.2.2.2.1 p k
  · show dm_row τ.2.2.2.2 τ.1.length (fun _ => .null) (ph p) k = rv ph (dm_row σ.2.2.2.2 σ.1.length (fun _ => .null) p k)
    unfold dm_row
    by_cases h : p = σ.1.length
    · rw [if_pos h, if_pos (by rw [h, hl])]; rfl
    · rw [if_neg h, if_neg (fun z => h (hp.1 _ _ (z.trans hl.symm)))]; exact hr.2.2.2.2.2.2 p k
theorem RN.rows (hp : PhO ph) (k : Nat) : ∀ (n : Nat) {σ τ : dm_St}, RN ph σ τ → RN ph (dm_rows k n σ) (dm_rows k n τ)
  | 0, _, _, h => h
  | n + 1, _, _, h => (RN.rows hp k n h).push hp _
theorem RN.mna (hp : PhO ph) (hr : RN ph σ τ) (n k : Nat) : RN ph (dm_mna n k σ) (dm_mna n k τ) := by
  have h := RN.rows hp k n (hr.push hp (.inr (6, n)))
  have hl := hr.len hp
  have h1 := hr.1
  have h2 := hr.2.1
  unfold dm_mna
  dsimp only
  generalize dm_rows k n (dm_push σ (.inr (6, n))) = σ2 at h ⊢
  generalize dm_rows k n (dm_push τ (.inr (6, n))) = τ2 at h ⊢
  refine ⟨h.1, h.2.1, h.2.2.1, h.2.2.2.1, h.2.2.2.2.1, h.2.2.2.2.2.1, fun p j => ?_⟩
  show dm_row τ2.2.2.2.2 τ.1.length _ (ph p) j = rv ph (dm_row σ2.2.2.2.2 σ.1.length _ p j)
  unfold dm_row
  by_cases e : p = σ.1.length
  · rw [if_pos e, if_pos (by rw [e, hl])]
    split
    · show Value.ref (τ.1.length + 1 + j) = .ref (ph (σ.1.length + 1 + j))
      rw [hp.2.1 _ (by omega), h2]
    · rfl
  · rw [if_neg e, if_neg (fun z => e (hp.1 _ _ (z.trans hl.symm)))]; exact h.2.2.2.2.2.2 p j
theorem r_ld (hr : RN ph σ τ) {i : Nat} {ok : Value → Bool} (hok : ∀ v, ok (rv ph v) = ok v) (h : dm_ld ls st σ i ok = some x) : MR ph x (dm_ld (rl ph ls) (rs ph st) τ i ok) := by
  unfold dm_ld at h ⊢
  rw [rl_get]
  cases hg : dm_get ls i with
  | none => rw [hg] at h; cases h
  | some v =>
    rw [hg] at h
    dsimp only [Option.map_some] at h ⊢
    rw [hok]
    split at h
    · rename_i hv
      cases h
      exact ⟨τ, if_pos hv, hr⟩
    · cases h
theorem r_st1 (hr : RN ph σ τ) {i : Nat} {ok : Value → Bool} (hok : ∀ v, ok (rv ph v) = ok v) (h : dm_st1 ls st σ i ok = some x) : MR ph x (dm_st1 (rl ph ls) (rs ph st) τ i ok) := by
  unfold dm_st1 at h
  split at h
  · rename_i v st
    split at h
    · rename_i hv
      cases h
      refine ⟨τ, ?_, hr⟩
      show (if ok (rv ph v) = true then some (dm_put1 (rl ph ls) i (rv ph v), rs ph st, τ) else none) = _
      rw [hok, if_pos hv, rl_put1]
    · cases h
  · cases h
theorem r_st2 (hr : RN ph σ τ) {i : Nat} (h : dm_st2 ls st σ i = some x) : MR ph x (dm_st2 (rl ph ls) (rs ph st) τ i) := by
  unfold dm_st2 at h
  split at h
  · rename_i v st
    cases h
    refine ⟨τ, ?_, hr⟩
    show some (dm_put2 (rl ph ls) i (rv ph (.long v)), rs ph st, τ) = _
    rw [rl_put2]
  · cases h
theorem r_b (hr : RN ph σ τ) {f : Int32 → Int32 → Int32} (h : dm_b ls st σ f = some x) : MR ph x (dm_b (rl ph ls) (rs ph st) τ f) := by
  unfold dm_b at h
  split at h
  · cases h; exact ⟨τ, rfl, hr⟩
  · cases h
theorem r_b0 (hr : RN ph σ τ) {f : Int32 → Int32 → Int32} (h : dm_b0 ls st σ f = some x) : MR ph x (dm_b0 (rl ph ls) (rs ph st) τ f) := by
  unfold dm_b0 at h
  split at h
  · split at h
    · cases h
    · rename_i hz
      cases h; exact ⟨τ, if_neg hz, hr⟩
  · cases h
theorem r_bl (hr : RN ph σ τ) {f : Int64 → Int64 → Int64} (h : dm_bl ls st σ f = some x) : MR ph x (dm_bl (rl ph ls) (rs ph st) τ f) := by
  unfold dm_bl at h
  split at h
  · cases h; exact ⟨τ, rfl, hr⟩
  · cases h
theorem r_bl0 (hr : RN ph σ τ) {f : Int64 → Int64 → Int64} (h : dm_bl0 ls st σ f = some x) : MR ph x (dm_bl0 (rl ph ls) (rs ph st) τ f) := by
  unfold dm_bl0 at h
  split at h
  · split at h
    · cases h
    · rename_i hz
      cases h; exact ⟨τ, if_neg hz, hr⟩
  · cases h
theorem r_bs (hr : RN ph σ τ) {f : Int64 → Int32 → Int64} (h : dm_bs ls st σ f = some x) : MR ph x (dm_bs (rl ph ls) (rs ph st) τ f) := by
  unfold dm_bs at h
  split at h
  · cases h; exact ⟨τ, rfl, hr⟩
  · cases h
theorem r_fv (hr : RN ph σ τ) (q ci k : Nat) : dm_fv τ (ph q) ci k = rv ph (dm_fv σ q ci k) := by
  unfold dm_fv
  split
  · show Value.int (τ.2.2.1 (ph q) k) = .int (σ.2.2.1 q k)
    rw [hr.2.2.2.2.1]
  · show Value.long (τ.2.2.2.1 (ph q) k) = .long (σ.2.2.2.1 q k)
    rw [hr.2.2.2.2.2.1]
  · exact hr.2.2.2.2.2.2 q k
theorem r_gf (hr : RN ph σ τ) {aux : List Int} (h : dm_gf ls st σ aux = some x) : MR ph x (dm_gf (rl ph ls) (rs ph st) τ aux) := by
  unfold dm_gf at h
  split at h
  · rename_i q st ci k _ _
    split at h
    · rename_i hs
      cases h
      refine ⟨τ, ?_, hr⟩
      show (if (dm_sh τ)[ph q]? = some (.inl ci.toNat) then some (rl ph ls, dm_fv τ (ph q) ci.toNat k.toNat :: rs ph st, τ) else none) = some (rl ph ls, rv ph (dm_fv σ q ci.toNat k.toNat) :: rs ph st, τ)
      rw [if_pos ((hr.2.2.1 q).trans hs), r_fv hr]
    · cases h
  · split at h
    · rename_i c1
      cases h; exact ⟨τ, if_pos c1, hr⟩
    · rename_i c1
      split at h
      · rename_i c2
        cases h; exact ⟨τ, (if_neg c1).trans (if_pos c2), hr⟩
      · rename_i c2
        split at h
        · rename_i c3
          cases h; exact ⟨τ, (if_neg c1).trans ((if_neg c2).trans (if_pos c3)), hr⟩
        · rename_i c3
          split at h
          · rename_i c4
            cases h; exact ⟨τ, (if_neg c1).trans ((if_neg c2).trans ((if_neg c3).trans (if_pos c4))), hr⟩
          · cases h
  · cases h
theorem r_pf (hp : PhO ph) (hr : RN ph σ τ) {aux : List Int} (h : dm_pf ls st σ aux = some x) : MR ph x (dm_pf (rl ph ls) (rs ph st) τ aux) := by
  unfold dm_pf at h
  split at h
  · rename_i v q st ci k _ _
    split at h
    · rename_i hs
      have hs2 : (dm_sh τ)[ph q]? = some (.inl ci.toNat) := (hr.2.2.1 q).trans hs
      split at h
      · rename_i y hk
        split at h
        · rename_i hf
          cases h
          refine ⟨_, ?_, hr.upI hp q k.toNat y⟩
          show (if (dm_sh τ)[ph q]? = some (.inl ci.toNat) then (match dm_fk (dm_ty ci.toNat k.toNat), Value.int y with
            | 0, .int x => if dm_fits (dm_ty ci.toNat k.toNat) x then some (rl ph ls, rs ph st, dm_setI τ (dm_up (dm_I τ) (ph q) k.toNat x)) else none
            | 1, .long x => some (rl ph ls, rs ph st, dm_setL τ (dm_up (dm_L τ) (ph q) k.toNat x))
            | 2, x => if dm_isRef x then some (rl ph ls, rs ph st, dm_setR τ (dm_up (dm_R τ) (ph q) k.toNat x)) else none
            | _, _ => none) else none) = _
          rw [if_pos hs2, hk]
          exact if_pos hf
        · cases h
      · rename_i y hk
        cases h
        refine ⟨_, ?_, hr.upL hp q k.toNat y⟩
        show (if (dm_sh τ)[ph q]? = some (.inl ci.toNat) then (match dm_fk (dm_ty ci.toNat k.toNat), Value.long y with
            | 0, .int x => if dm_fits (dm_ty ci.toNat k.toNat) x then some (rl ph ls, rs ph st, dm_setI τ (dm_up (dm_I τ) (ph q) k.toNat x)) else none
            | 1, .long x => some (rl ph ls, rs ph st, dm_setL τ (dm_up (dm_L τ) (ph q) k.toNat x))
            | 2, x => if dm_isRef x then some (rl ph ls, rs ph st, dm_setR τ (dm_up (dm_R τ) (ph q) k.toNat x)) else none
            | _, _ => none) else none) = _
        rw [if_pos hs2, hk]
        try rfl
      · rename_i y _ _ hk
        split at h
        · rename_i hf
          cases h
          refine ⟨_, ?_, hr.upR hp q k.toNat y⟩
          show (if (dm_sh τ)[ph q]? = some (.inl ci.toNat) then (match dm_fk (dm_ty ci.toNat k.toNat), rv ph y with
            | 0, .int x => if dm_fits (dm_ty ci.toNat k.toNat) x then some (rl ph ls, rs ph st, dm_setI τ (dm_up (dm_I τ) (ph q) k.toNat x)) else none
            | 1, .long x => some (rl ph ls, rs ph st, dm_setL τ (dm_up (dm_L τ) (ph q) k.toNat x))
            | 2, x => if dm_isRef x then some (rl ph ls, rs ph st, dm_setR τ (dm_up (dm_R τ) (ph q) k.toNat x)) else none
            | _, _ => none) else none) = _
          rw [if_pos hs2, hk]
          exact if_pos ((rv_isRef y).trans hf)
        · cases h
      · cases h
    · cases h
  · cases h
theorem r_ald (hr : RN ph σ τ) {t : Nat} (h : dm_ald S ls st σ t = some x) : MR ph x (dm_ald S (rl ph ls) (rs ph st) τ t) := by
  unfold dm_ald at h
  split at h
  · rename_i i q st
    split at h
    · rename_i t' n hs
      split at h
      · rename_i hc
        cases h
        refine ⟨τ, ?_, hr⟩
        unfold dm_ald
        show (match (dm_sh τ)[ph q]? with
          | some (.inr (t', n)) => if t' = t ∧ dm_in i n = true then some (rl ph ls, (match t with
            | 1 => Value.long (dm_L τ (ph q) i.toNatClampNeg)
            | 0 => .int (dm_I τ (ph q) i.toNatClampNeg)
            | 2 => .int (dm_I τ (ph q) i.toNatClampNeg)
            | 3 => .int (dm_I τ (ph q) i.toNatClampNeg)
            | _ => dm_R τ (ph q) i.toNatClampNeg) :: rs ph st, τ) else none
          | _ => none) = _
        rw [(hr.2.2.1 q).trans hs]
        refine (if_pos hc).trans ?_
        show some (rl ph ls, _ :: rs ph st, τ) = some (rl ph ls, rv ph _ :: rs ph st, τ)
        congr 4
        clear hc hs
        match t with
        | 1 => exact congrArg Value.long (hr.2.2.2.2.2.1 q _)
        | 0 => exact congrArg Value.int (hr.2.2.2.2.1 q _)
        | 2 => exact congrArg Value.int (hr.2.2.2.2.1 q _)
        | 3 => exact congrArg Value.int (hr.2.2.2.2.1 q _)
        | n + 4 => exact hr.2.2.2.2.2.2 q _
      · cases h
    · cases h
  · split at h
    · rename_i c1
      cases h; exact ⟨τ, if_pos c1, hr⟩
    · rename_i c1
      split at h
      · rename_i c2
        cases h; exact ⟨τ, (if_neg c1).trans (if_pos c2), hr⟩
      · cases h
  · cases h
theorem r_aald (hr : RN ph σ τ) (h : dm_aald ls st σ = some x) : MR ph x (dm_aald (rl ph ls) (rs ph st) τ) := by
  unfold dm_aald at h
  split at h
  · rename_i i q st
    split at h
    · rename_i t n hs
      split at h
      · rename_i hc
        cases h
        refine ⟨τ, ?_, hr⟩
        unfold dm_aald
        show (match (dm_sh τ)[ph q]? with
          | some (.inr (t, n)) => if 4 ≤ t ∧ dm_in i n = true ∧ dm_isRef (dm_R τ (ph q) i.toNatClampNeg) = true then some (rl ph ls, dm_R τ (ph q) i.toNatClampNeg :: rs ph st, τ) else none
          | _ => none) = _
        rw [(hr.2.2.1 q).trans hs]
        have e : dm_R τ (ph q) i.toNatClampNeg = rv ph (dm_R σ q i.toNatClampNeg) := hr.2.2.2.2.2.2 q _
        refine (if_pos ⟨hc.1, hc.2.1, by rw [e, rv_isRef]; exact hc.2.2⟩).trans ?_
        rw [e]
        try rfl
      · cases h
    · cases h
  · split at h
    · rename_i c1
      cases h; exact ⟨τ, if_pos c1, hr⟩
    · cases h
  · cases h
theorem r_ast (hp : PhO ph) (hr : RN ph σ τ) {t : Nat} (h : dm_ast ls st σ t = some x) : MR ph x (dm_ast (rl ph ls) (rs ph st) τ t) := by
  unfold dm_ast at h
  split at h
  · rename_i y i q st
    split at h
    · rename_i t' n hs
      split at h
      · rename_i hc
        cases h
        refine ⟨_, ?_, hr.upI hp q i.toNatClampNeg y⟩
        unfold dm_ast
        show (match (dm_sh τ)[ph q]? with
          | some (.inr (t', n)) => if t' = t ∧ dm_fits (dm_at t) y = true ∧ dm_in i n = true then some (rl ph ls, rs ph st, dm_setI τ (dm_up (dm_I τ) (ph q) i.toNatClampNeg y)) else none
          | _ => none) = _
        rw [(hr.2.2.1 q).trans hs]
        exact if_pos hc
      · cases h
    · cases h
  · cases h
theorem r_last (hp : PhO ph) (hr : RN ph σ τ) (h : dm_last ls st σ = some x) : MR ph x (dm_last (rl ph ls) (rs ph st) τ) := by
  unfold dm_last at h
  split at h
  · rename_i y i q st
    split at h
    · rename_i t' n hs
      split at h
      · rename_i hc
        cases h
        refine ⟨_, ?_, hr.upL hp q i.toNatClampNeg y⟩
        unfold dm_last
        show (match (dm_sh τ)[ph q]? with
          | some (.inr (t', n)) => if t' = 1 ∧ dm_in i n = true then some (rl ph ls, rs ph st, dm_setL τ (dm_up (dm_L τ) (ph q) i.toNatClampNeg y)) else none
          | _ => none) = _
        rw [(hr.2.2.1 q).trans hs]
        exact if_pos hc
      · cases h
    · cases h
  · cases h
theorem r_aast (hp : PhO ph) (hr : RN ph σ τ) (h : dm_aast ls st σ = some x) : MR ph x (dm_aast (rl ph ls) (rs ph st) τ) := by
  unfold dm_aast at h
  split at h
  · rename_i y i q st
    split at h
    · rename_i t n ci hs hx
      split at h
      · rename_i hc
        cases h
        refine ⟨_, ?_, hr.upR hp q i.toNatClampNeg (.ref y)⟩
        unfold dm_aast
        show (match (dm_sh τ)[ph q]?, (dm_sh τ)[ph y]? with
          | some (.inr (t, n)), some (.inl ci) => if ((t = 4 ∧ ci = 6) ∨ (t = 5 ∧ ci = 7)) ∧ dm_in i n = true then some (rl ph ls, rs ph st, dm_setR τ (dm_up (dm_R τ) (ph q) i.toNatClampNeg (.ref (ph y)))) else none
          | _, _ => none) = _
        rw [(hr.2.2.1 q).trans hs, (hr.2.2.1 y).trans hx]
        exact if_pos hc
      · cases h
    · cases h
  · cases h
theorem r_len (hr : RN ph σ τ) (h : dm_len S ls st σ = some x) : MR ph x (dm_len S (rl ph ls) (rs ph st) τ) := by
  unfold dm_len at h
  split at h
  · rename_i q st
    split at h
    · rename_i t n hs
      cases h
      refine ⟨τ, ?_, hr⟩
      unfold dm_len
      show (match (dm_sh τ)[ph q]? with
        | some (.inr (_, n)) => some (rl ph ls, Value.int (Int32.ofNat n) :: rs ph st, τ)
        | _ => none) = _
      rw [(hr.2.2.1 q).trans hs]
      try rfl
    · cases h
  · split at h
    · rename_i c1
      cases h; exact ⟨τ, if_pos c1, hr⟩
    · rename_i c1
      split at h
      · rename_i c2
        cases h; exact ⟨τ, (if_neg c1).trans (if_pos c2), hr⟩
      · rename_i c2
        split at h
        · rename_i c3
          cases h; exact ⟨τ, (if_neg c1).trans ((if_neg c2).trans (if_pos c3)), hr⟩
        · cases h
  · cases h
theorem r_new (hp : PhO ph) (hr : RN ph σ τ) {y : dm_Sh} (h : dm_new ls st σ y = some x) : MR ph x (dm_new (rl ph ls) (rs ph st) τ y) := by
  unfold dm_new at h
  split at h
  · rename_i hc
    cases h
    refine ⟨_, ?_, hr.push hp y⟩
    unfold dm_new
    rw [if_pos (by rw [hr.2.2.2.1]; exact hc)]
    show some (rl ph ls, Value.ref τ.1.length :: rs ph st, _) = some (rl ph ls, Value.ref (ph σ.1.length) :: rs ph st, _)
    rw [hr.len hp]
  · cases h
theorem r_newa (hp : PhO ph) (hr : RN ph σ τ) {t : Nat} (h : dm_newa ls st σ t = some x) : MR ph x (dm_newa (rl ph ls) (rs ph st) τ t) := by
  unfold dm_newa at h
  split at h
  · rename_i n st
    split at h
    · rename_i hc
      obtain ⟨τ', e, hr'⟩ := r_new hp hr h
      refine ⟨τ', ?_, hr'⟩
      unfold dm_newa
      exact (if_pos ⟨hc.1, hc.2.1, by rw [hr.2.2.2.1]; exact hc.2.2⟩).trans e
    · cases h
  · cases h
theorem r_acopy (hp : PhO ph) (hr : RN ph σ τ) (h : dm_acopy ls st σ = some x) : MR ph x (dm_acopy (rl ph ls) (rs ph st) τ) := by
  unfold dm_acopy at h
  split at h
  · rename_i n dp b sp a st
    split at h
    · rename_i t na t' nb hs hx
      split at h
      · rename_i hc
        cases h
        refine ⟨_, ?_, hr.rowI hp b (f' := va_cpy (dm_I τ (ph a)) (dm_I τ (ph b)) sp.toNatClampNeg dp.toNatClampNeg n.toNatClampNeg) (by
          have ea : dm_I τ (ph a) = dm_I σ a := funext fun k => hr.2.2.2.2.1 a k
          have eb : dm_I τ (ph b) = dm_I σ b := funext fun k => hr.2.2.2.2.1 b k
          rw [ea, eb])⟩
        unfold dm_acopy
        show (match (dm_sh τ)[ph a]?, (dm_sh τ)[ph b]? with
          | some (.inr (t, na)), some (.inr (t', nb)) => if dm_wait (rs ph st) = true ∧ t = 0 ∧ t' = 0 ∧ 0 ≤ n ∧ 0 ≤ sp ∧ 0 ≤ dp ∧ sp.toNatClampNeg + n.toNatClampNeg ≤ na ∧ dp.toNatClampNeg + n.toNatClampNeg ≤ nb
              then some (rl ph ls, rs ph st, dm_setI τ (dm_row (dm_I τ) (ph b) (va_cpy (dm_I τ (ph a)) (dm_I τ (ph b)) sp.toNatClampNeg dp.toNatClampNeg n.toNatClampNeg))) else none
          | _, _ => none) = _
        rw [(hr.2.2.1 a).trans hs, (hr.2.2.1 b).trans hx]
        exact if_pos ⟨by rw [rs_wait]; exact hc.1, hc.2⟩
      · cases h
    · cases h
  · cases h
theorem r_sx (hp : PhO ph) (hr : RN ph σ τ) {i : Instr} {aux : List Int} (h : dm_sx S i aux ls st σ = some x) : MR ph x (dm_sx S i aux (rl ph ls) (rs ph st) τ) := by
  cases i
  case newarray a => cases a <;> first | exact r_newa hp hr h | cases h
  case iinc i v =>
    unfold dm_sx at h ⊢
    dsimp only at h ⊢
    rw [rl_get]
    cases hg : dm_get ls i with
    | none => rw [hg] at h; cases h
    | some w =>
      rw [hg] at h
      cases w with
      | int y =>
        cases h
        refine ⟨τ, ?_, hr⟩
        show some (dm_put1 (rl ph ls) i (rv ph (.int (y + Int32.ofInt v))), rs ph st, τ) = _
        rw [rl_put1]
      | _ => cases h
  case dup =>
    unfold dm_sx at h
    dsimp only at h
    split at h
    · rename_i v st
      split at h
      · rename_i hc
        cases h
        refine ⟨τ, ?_, hr⟩
        exact if_pos ((rv_cat v).trans hc)
      · cases h
    · cases h
  case dup2 =>
    unfold dm_sx at h
    dsimp only at h
    split at h
    · rename_i v w st
      split at h
      · rename_i hc
        cases h
        refine ⟨τ, ?_, hr⟩
        exact if_pos ⟨(rv_cat v).trans hc.1, (rv_cat w).trans hc.2⟩
      · cases h
    · cases h
  case pop =>
    unfold dm_sx at h
    dsimp only at h
    split at h
    · rename_i v st
      split at h
      · rename_i hc
        cases h
        refine ⟨τ, ?_, hr⟩
        exact if_pos ((rv_cat v).trans hc)
      · cases h
    · cases h
  case ldc a =>
    unfold dm_sx at h
    dsimp only at h
    split at h
    · cases h; exact ⟨τ, rfl, hr⟩
    · cases h; exact ⟨τ, rfl, hr⟩
    · cases h
  case getstatic a =>
    unfold dm_sx at h
    dsimp only at h
    split at h
    · split at h
      · rename_i c1
        cases h; exact ⟨τ, if_pos c1, hr⟩
      · rename_i c1
        cases h; exact ⟨τ, if_neg c1, hr⟩
    · cases h
  case multianewarray a b =>
    unfold dm_sx at h
    dsimp only at h
    split at h
    · rename_i k n st
      split at h
      · rename_i hc
        cases h
        refine ⟨_, ?_, hr.mna hp n.toNatClampNeg k.toNatClampNeg⟩
        refine (if_pos ⟨hc.1, hc.2.1, hc.2.2.1, hc.2.2.2.1, by rw [hr.2.2.2.1]; exact hc.2.2.2.2⟩).trans ?_
        show some (rl ph ls, Value.ref τ.1.length :: rs ph st, _) = some (rl ph ls, Value.ref (ph σ.1.length) :: rs ph st, _)
        rw [hr.len hp]
      · cases h
    · cases h
  case new a =>
    unfold dm_sx at h
    dsimp only at h
    split at h
    · exact r_new hp hr h
    · cases h
  case anewarray a =>
    unfold dm_sx at h
    dsimp only at h
    split at h
    · exact r_newa hp hr h
    · cases h
  all_goals first
    | exact r_ld hr rv_kI h
    | exact r_ld hr rv_kL h
    | exact r_ld hr rv_kA h
    | exact r_st1 hr rv_kI h
    | exact r_st1 hr rv_kA h
    | exact r_st2 hr h
    | exact r_b hr h
    | exact r_b0 hr h
    | exact r_bl hr h
    | exact r_bl0 hr h
    | exact r_bs hr h
    | exact r_gf hr h
    | exact r_pf hp hr h
    | exact r_ald hr h
    | exact r_aald hr h
    | exact r_ast hp hr h
    | exact r_last hp hr h
    | exact r_aast hp hr h
    | exact r_len hr h
    | (unfold dm_sx at h; dsimp only at h; cases h; exact ⟨τ, rfl, hr⟩)
    | (unfold dm_sx at h; dsimp only at h; split at h; (cases h; exact ⟨τ, rfl, hr⟩); cases h)
    | (unfold dm_sx at h; dsimp only at h; split at h; (cases h; exact ⟨τ, rfl, hr⟩); (cases h; exact ⟨τ, rfl, hr⟩); cases h)
    | (unfold dm_sx at h; cases h)
/-- a call is the same call -/
def CR (ph : Nat → Nat) (call : Nat → List Value → dm_St → dm_Rs) : Prop := ∀ mi as σ τ r σ', RN ph σ τ → call mi as σ = some (r, σ') → ∃ τ', call mi (rs ph as) τ = some (r.map (rv ph), τ') ∧ RN ph σ' τ'
theorem r_rcv (hr : RN ph σ τ) {ci : Nat} {as : List Value} : dm_rcv τ ci (rs ph as) = dm_rcv σ ci as := by
  cases as with
  | nil => rfl
  | cons v as =>
    cases v with
    | ref q =>
      show decide ((dm_sh τ)[ph q]? = some (.inl ci)) = decide ((dm_sh σ)[q]? = some (.inl ci))
      rw [hr.2.2.1 q]
    | _ => rfl
theorem r_inv (hp : PhO ph) {call : Nat → List Value → dm_St → dm_Rs} (hc : CR ph call) (hr : RN ph σ τ) {aux : List Int} (h : dm_inv call aux ls st σ = some x) : MR ph x (dm_inv call aux (rl ph ls) (rs ph st) τ) := by
  unfold dm_inv at h
  split at h
  · rename_i kd mi na ci tl
    dsimp only at h
    split at h
    · rename_i hc1
      split at h
      · rename_i r σ1 h1
        cases h
        have ea : ((rs ph st).take na.toNat).reverse = rs ph (st.take na.toNat).reverse := by unfold rs; rw [← List.map_take, List.map_reverse]
        have ed : (rs ph st).drop na.toNat = rs ph (st.drop na.toNat) := by unfold rs; rw [← List.map_drop]
        have el : (rs ph st).length = st.length := List.length_map _
        obtain ⟨τ', e, hr'⟩ := hc _ _ _ _ _ _ hr h1
        refine ⟨τ', ?_, hr'⟩
        show dm_inv call (kd :: mi :: na :: ci :: tl) (rl ph ls) (rs ph st) τ = _
        unfold dm_inv
        dsimp only
        rw [ea, ed, el, rs_wait, r_rcv hr, if_pos hc1, e]
        show some (rl ph ls, (r.map (rv ph)).toList ++ rs ph (st.drop na.toNat), τ') = some (rl ph ls, rs ph (r.toList ++ st.drop na.toNat), τ')
        congr 3
        unfold rs
        rw [List.map_append]
        cases r <;> rfl
      · cases h
    · cases h
  · split at h
    · rename_i q st
      split at h
      · rename_i hw
        cases h
        refine ⟨τ, ?_, hr⟩
        exact if_pos ((rs_wait st).trans hw)
      · cases h
    · cases h
  · exact r_acopy hp hr h
  · split at h
    · rename_i y z st
      split at h
      · rename_i hw
        cases h
        refine ⟨τ, ?_, hr⟩
        exact if_pos ((rs_wait st).trans hw)
      · cases h
    · cases h
  · split at h
    · rename_i y z st
      split at h
      · rename_i hw
        cases h
        refine ⟨τ, ?_, hr⟩
        exact if_pos ((rs_wait st).trans hw)
      · cases h
    · cases h
  · cases h
/-- what comes next -/
def NR (ph : Nat → Nat) (y : (Option Value × dm_St) ⊕ (List dm_Op × dm_Lv × List Value × dm_St)) (o : dm_Nx) : Prop := match y with
  | .inl (r, σ') => ∃ τ', o = some (.inl (r.map (rv ph), τ')) ∧ RN ph σ' τ'
  | .inr (k, ls, st, σ') => ∃ τ', o = some (.inr (k, rl ph ls, rs ph st, τ')) ∧ RN ph σ' τ'
theorem r_mv {k : List dm_Op} {o : Option dm_Mv} {o' : Option dm_Mv} (h : ∀ x, o = some x → MR ph x o') {y : (Option Value × dm_St) ⊕ (List dm_Op × dm_Lv × List Value × dm_St)} (hy : xn_mv k o = some y) : NR ph y (xn_mv k o') := by
  cases o with
  | none => cases hy
  | some m =>
    cases hy
    obtain ⟨τ', e, hr⟩ := h m rfl
    exact ⟨τ', by rw [e]; rfl, hr⟩
theorem r_xn (hp : PhO ph) {call : Nat → List Value → dm_St → dm_Rs} (hc : CR ph call) (hr : RN ph σ τ) {ret : Option FieldType} {code : List dm_Op} {o : dm_Op} {k : List dm_Op} {y : (Option Value × dm_St) ⊕ (List dm_Op × dm_Lv × List Value × dm_St)} (h : xn S call ret code o k ls st σ = some y) : NR ph y (xn S call ret code o k (rl ph ls) (rs ph st) τ) := by
  obtain ⟨pc, i, len, aux⟩ := o
  have hs : ∀ j, xn_mv k (dm_sx S j aux ls st σ) = some y → NR ph y (xn_mv k (dm_sx S j aux (rl ph ls) (rs ph st) τ)) := fun j hj => r_mv (fun x hx => r_sx hp hr hx) hj
  have hi : xn_mv k (dm_inv call aux ls st σ) = some y → NR ph y (xn_mv k (dm_inv call aux (rl ph ls) (rs ph st) τ)) := fun hj => r_mv (fun x hx => r_inv hp hc hr hx) hj
  cases i
  case return_ =>
    unfold xn at h
    dsimp only at h
    split at h
    · cases h; exact ⟨τ, rfl, hr⟩
    · cases h
  case ireturn =>
    unfold xn at h
    dsimp only at h
    split at h
    · split at h
      · rename_i hf
        cases h; exact ⟨τ, if_pos hf, hr⟩
      · cases h
    · cases h
  case lreturn =>
    unfold xn at h
    dsimp only at h
    split at h
    · cases h; exact ⟨τ, rfl, hr⟩
    · cases h
  case areturn =>
    unfold xn at h
    dsimp only at h
    split at h
    · rename_i v
      split at h
      · rename_i hf
        cases h; exact ⟨τ, if_pos ((rv_isRef v).trans hf), hr⟩
      · cases h
    · cases h
  case goto off => cases h; exact ⟨τ, rfl, hr⟩
  case if_icmp cnd off =>
    unfold xn at h
    dsimp only at h
    split at h
    · cases h; exact ⟨τ, rfl, hr⟩
    · cases h
  case ifCond cnd off =>
    unfold xn at h
    dsimp only at h
    split at h
    · cases h; exact ⟨τ, rfl, hr⟩
    · cases h
  case ifnull off =>
    unfold xn at h
    dsimp only at h
    split at h
    · cases h; exact ⟨τ, rfl, hr⟩
    · cases h; exact ⟨τ, rfl, hr⟩
    · cases h; exact ⟨τ, rfl, hr⟩
    · cases h
  case ifnonnull off =>
    unfold xn at h
    dsimp only at h
    split at h
    · cases h; exact ⟨τ, rfl, hr⟩
    · cases h; exact ⟨τ, rfl, hr⟩
    · cases h; exact ⟨τ, rfl, hr⟩
    · cases h
  case if_acmp cnd off =>
    cases cnd
    case ne =>
      unfold xn at h
      dsimp only at h
      split at h
      · split at h
        · rename_i hf
          cases h; exact ⟨τ, if_pos hf, hr⟩
        · cases h
      · split at h
        · rename_i hf
          cases h; exact ⟨τ, if_pos hf, hr⟩
        · cases h
      · cases h
    all_goals exact hs _ h
  case tableswitch dflt lo hi offs =>
    unfold xn at h
    dsimp only at h
    split at h
    · rename_i v st
      split at h
      · rename_i hf
        cases h; exact ⟨τ, if_pos hf, hr⟩
      · rename_i hf
        split at h
        · rename_i off ho
          cases h
          refine ⟨τ, ?_, hr⟩
          refine (if_neg hf).trans ?_
          rw [ho]
          try rfl
        · cases h
    · cases h
  all_goals first | exact hi h | exact hs _ h
theorem r_exec (hp : PhO ph) {call : Nat → List Value → dm_St → dm_Rs} (hc : CR ph call) {ret : Option FieldType} {code : List dm_Op} (n : Nat) : ∀ (k : List dm_Op) (ls : dm_Lv) (st : List Value) (σ τ : dm_St) (r : Option Value) (σ' : dm_St), RN ph σ τ → dm_exec S call ret code n k ls st σ = some (r, σ') → ∃ τ', dm_exec S call ret code n k (rl ph ls) (rs ph st) τ = some (r.map (rv ph), τ') ∧ RN ph σ' τ' := by
  induction n with
  | zero => intro k ls st σ τ r σ' _ h; simp [dm_exec] at h
  | succ n ih =>
    intro k ls st σ τ r σ' hr h
    cases k with
    | nil => simp [dm_exec] at h
    | cons o k =>
      rw [xn_exec] at h ⊢
      cases hx : xn S call ret code o k ls st σ with
      | none => rw [hx] at h; cases h
      | some y =>
        have hn := r_xn hp hc hr hx
        rw [hx] at h
        cases y with
        | inl q =>
          obtain ⟨τ', e, hr'⟩ := hn
          rw [e]
          cases h
          exact ⟨τ', rfl, hr'⟩
        | inr q =>
          obtain ⟨k2, ls2, st2, σ2⟩ := q
          obtain ⟨τ2, e, hr2⟩ := hn
          rw [e]
          exact ih k2 ls2 st2 σ2 τ2 r σ' hr2 h
theorem rl_args : ∀ (i : Nat) (as : List Value), lv_args i (rs ph as) = rl ph (lv_args i as)
  | _, [] => rfl
  | i, v :: as => by
    show lv_args i (rv ph v :: rs ph as) = _
    unfold lv_args
    rw [rv_cat, rl_args _ as]
    try rfl
theorem rl_pv : ∀ (i : Nat) (vs : List Value), pv i (rs ph vs) = rl ph (pv i vs)
  | _, [] => rfl
  | i, v :: vs => by
    have h := rl_pv (i + 1) vs
    have e : pv_n (rv ph v) = pv_n v := by cases v <;> rfl
    show (match pv_n (rv ph v) with | true => pv (i + 1) (rs ph vs) | false => (i, rv ph v) :: pv (i + 1) (rs ph vs)) = rl ph (match pv_n v with | true => pv (i + 1) vs | false => (i, v) :: pv (i + 1) vs)
    rw [e]
    cases pv_n v
    · show (i, rv ph v) :: pv (i + 1) (rs ph vs) = (i, rv ph v) :: rl ph (pv (i + 1) vs)
      rw [h]
    · exact h
theorem r_run (hp : PhO ph) (n : Nat) : ∀ d, CR ph (dm_run S dm_tab d n) := by
  intro d
  induction d with
  | zero => intro mi as σ τ r σ' _ h; simp [dm_run] at h
  | succ d ih =>
    intro mi as σ τ r σ' hr h
    unfold dm_run at h ⊢
    cases ht : dm_tab mi with
    | none => rw [ht] at h; cases h
    | some row =>
      rw [ht] at h
      dsimp only at h ⊢
      have e : ((rs ph as).map fun v => v.category) = as.map fun v => v.category := by
        unfold rs
        rw [List.map_map]
        exact List.map_congr_left (fun v _ => rv_cat v)
      rw [e]
      split at h
      · rename_i hb
        rw [if_pos hb, rl_args]
        exact r_exec hp ih n _ _ _ _ _ _ _ hr h
      · cases h
theorem r_lz (hp : PhO ph) {d n : Nat} {b : Bool} {as : List Value} {r : Option Value} {σ' : dm_St} (hr : RN ph σ τ) (h : lz S d n b as σ = some (r, σ')) : ∃ τ', lz S d n b (rs ph as) τ = some (r.map (rv ph), τ') ∧ RN ph σ' τ' := by
  unfold lz at h
  split at h
  · rename_i y p q o
    split at h
    · rename_i hs
      split at h
      · rename_i t σ1 h1
        obtain ⟨τ1, e1, hr1⟩ := r_run hp n d _ _ _ _ _ _ hr h1
        have hs2 : (dm_sh τ)[ph y]? = some (.inl 10) := (hr.2.2.1 y).trans hs
        have e1' : dm_run S dm_tab d n 142 [.ref (ph y), .int p, .int q] τ = some (some (.int t), τ1) := e1
        split at h
        · rename_i ht
          cases h
          refine ⟨(τ1.1, (τ1.2.1.1 + 1, τ1.2.1.2 + 6), τ1.2.2), ?_, ⟨hr1.1, hr1.2.1, hr1.2.2.1, by show (τ1.2.1.1 + 1, τ1.2.1.2 + 6) = (σ1.2.1.1 + 1, σ1.2.1.2 + 6); rw [hr1.2.2.2.1], hr1.2.2.2.2⟩⟩
          show lz S d n b [.ref (ph y), .int p, .int q, .ref (ph o)] τ = _
          unfold lz
          dsimp only
          rw [if_pos hs2, e1']
          exact if_pos ht
        · rename_i ht
          split at h
          · rename_i v σ2 h2
            split at h
            · rename_i ho
              cases h
              obtain ⟨τ2, e2, hr2⟩ := r_exec hp (r_run hp n d) n _ _ _ _ _ _ _ hr1 h2
              refine ⟨_, ?_, hr2.upL hp o 0 v.toInt64⟩
              show lz S d n b [.ref (ph y), .int p, .int q, .ref (ph o)] τ = _
              unfold lz
              dsimp only
              rw [if_pos hs2, e1']
              refine (if_neg ht).trans ?_
              have e2' : dm_exec S (dm_run S dm_tab d n) (some .int) (lzk b) n (lzk b) (lvs [.ref (ph y), .int p, .int q]) [] τ1 = some (some (.int v), τ2) := e2
              rw [e2']
              exact if_pos ((hr2.2.2.1 o).trans ho)
            · cases h
          · cases h
      · cases h
    · cases h
  · cases h
theorem r_lcall (hp : PhO ph) (d n : Nat) : CR ph (lcall S d n) := by
  intro mi as σ τ r σ' hr h
  unfold lcall at h ⊢
  split at h
  · rename_i h1
    rw [if_pos h1]; exact r_lz hp hr h
  · rename_i h1
    rw [if_neg h1]
    split at h
    · rename_i h2
      rw [if_pos h2]; exact r_lz hp hr h
    · rename_i h2
      rw [if_neg h2]; exact r_run hp n d _ _ _ _ _ _ hr h
/-- the law's walk under other names -/
theorem Yxw_rn (hp : PhO ph) {d : Nat} {ret : Option FieldType} {code k : List dm_Op} {vs : List Value} {Q Q' : Option Value → dm_St → Prop} (hr : RN ph σ τ) (hQ : ∀ r σ' τ', RN ph σ' τ' → Q r σ' → Q' (r.map (rv ph)) τ') (h : Yxw S d ret code k (lvs vs) [] σ Q) : Yxw S d ret code k (lvs (rs ph vs)) [] τ Q' := by
  obtain ⟨n, N, r, σ', h, q⟩ := h
  obtain ⟨τ', e, hr'⟩ := r_exec hp (r_lcall hp d N) n _ _ _ _ _ _ _ hr h
  refine ⟨n, N, _, τ', ?_, hQ _ _ _ hr' q⟩
  rw [← e]
  show dm_exec S (lcall S d N) ret code n k (pv 0 (rs ph vs)) [] τ = _
  rw [rl_pv]
  try rfl
end RNM
