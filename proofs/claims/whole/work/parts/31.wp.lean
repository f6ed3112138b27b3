/-! More fuel changes nothing; what holds behind a pure run (weakest conditions). -/
theorem xm_inv {call call' : Nat → List Value → dm_St → dm_Rs} (hc : ∀ mi as σ x, call mi as σ = some x → call' mi as σ = some x) {aux : List Int} {ls : dm_Lv} {st : List Value} {σ : dm_St} {x : dm_Mv} (h : dm_inv call aux ls st σ = some x) : dm_inv call' aux ls st σ = some x := by
  unfold dm_inv at h
  split at h
  · rename_i kd mi na ci tl
    dsimp only at h
    split at h
    · rename_i hc1
      split at h
      · rename_i r σ1 hr
        show dm_inv call' (kd :: mi :: na :: ci :: tl) ls st σ = some x
        unfold dm_inv
        dsimp only
        rw [if_pos hc1, hc _ _ _ _ hr]
        exact h
      · cases h
    · cases h
  · exact h
  · exact h
  · exact h
  · exact h
  · cases h
theorem xm_xn {S : dm_Sc} {call call' : Nat → List Value → dm_St → dm_Rs} (hc : ∀ mi as σ x, call mi as σ = some x → call' mi as σ = some x) {ret : Option FieldType} {code : List dm_Op} {o : dm_Op} {k : List dm_Op} {ls : dm_Lv} {st : List Value} {σ : dm_St} {y : (Option Value × dm_St) ⊕ (List dm_Op × dm_Lv × List Value × dm_St)} (h : xn S call ret code o k ls st σ = some y) : xn S call' ret code o k ls st σ = some y := by
  obtain ⟨pc, i, len, aux⟩ := o
  have hinv : xn_mv k (dm_inv call aux ls st σ) = some y → xn_mv k (dm_inv call' aux ls st σ) = some y := by
    intro h
    cases hq : dm_inv call aux ls st σ with
    | none => rw [hq] at h; cases h
    | some m => rw [xm_inv hc hq]; rw [hq] at h; exact h
  cases i
  case if_acmp cnd off => cases cnd <;> exact h
  all_goals first | exact hinv h | exact h
theorem xm_exec {S : dm_Sc} {call call' : Nat → List Value → dm_St → dm_Rs} (hc : ∀ mi as σ x, call mi as σ = some x → call' mi as σ = some x) {ret : Option FieldType} {code : List dm_Op} : ∀ (n n' : Nat), n ≤ n' → ∀ (k : List dm_Op) (ls : dm_Lv) (st : List Value) (σ : dm_St) (x : Option Value × dm_St), dm_exec S call ret code n k ls st σ = some x → dm_exec S call' ret code n' k ls st σ = some x
  | 0, _, _, _, _, _, _, _, h => by simp [dm_exec] at h
  | n + 1, 0, hn, _, _, _, _, _, _ => by omega
  | n + 1, n' + 1, hn, [], _, _, _, _, h => by simp [dm_exec] at h
  | n + 1, n' + 1, hn, o :: k, ls, st, σ, x, h => by
    rw [xn_exec] at h ⊢
    cases hx : xn S call ret code o k ls st σ with
    | none => rw [hx] at h; cases h
    | some y =>
      rw [xm_xn hc hx]
      rw [hx] at h
      cases y with
      | inl r => exact h
      | inr q => exact xm_exec hc n n' (by omega) _ _ _ _ _ h
theorem xm_run {S : dm_Sc} {n n' : Nat} (hn : n ≤ n') : ∀ (d mi : Nat) (as : List Value) (σ : dm_St) (x : Option Value × dm_St), dm_run S dm_tab d n mi as σ = some x → dm_run S dm_tab d n' mi as σ = some x
  | 0, _, _, _, _, h => by simp [dm_run] at h
  | d + 1, mi, as, σ, x, h => by
    unfold dm_run at h ⊢
    cases ht : dm_tab mi with
    | none => rw [ht] at h; cases h
    | some row =>
      rw [ht] at h
      dsimp only at h ⊢
      split at h
      · rename_i hb
        rw [if_pos hb]
        exact xm_exec (fun mi as σ x h => xm_run hn d mi as σ x h) n n' hn _ _ _ _ _ h
      · cases h
/-- deeper is as good -/
theorem xm_deep {S : dm_Sc} {n : Nat} : ∀ (d mi : Nat) (as : List Value) (σ : dm_St) (x : Option Value × dm_St), dm_run S dm_tab d n mi as σ = some x → dm_run S dm_tab (d + 1) n mi as σ = some x
  | 0, _, _, _, _, h => by simp [dm_run] at h
  | d + 1, mi, as, σ, x, h => by
    unfold dm_run at h ⊢
    cases ht : dm_tab mi with
    | none => rw [ht] at h; cases h
    | some row =>
      rw [ht] at h
      dsimp only at h ⊢
      split at h
      · rename_i hb
        rw [if_pos hb]
        exact xm_exec (fun mi as σ x h => xm_deep d mi as σ x h) n n (Nat.le_refl n) _ _ _ _ _ h
      · cases h
def xw (S : dm_Sc) (d : Nat) (ret : Option FieldType) (code k : List dm_Op) (ls : dm_Lv) (st : List Value) (σ : dm_St) (Q : Option Value → dm_St → Prop) : Prop := ∃ (n N : Nat) (r : Option Value) (σ' : dm_St), dm_exec S (dm_run S dm_tab d N) ret code n k ls st σ = some (r, σ') ∧ Q r σ'
def xc (S : dm_Sc) (d mi : Nat) (as : List Value) (σ : dm_St) (Q : Option Value → dm_St → Prop) : Prop := ∃ (N : Nat) (r : Option Value) (σ' : dm_St), dm_run S dm_tab d N mi as σ = some (r, σ') ∧ Q r σ'
section XW
variable {S : dm_Sc} {d : Nat} {ret : Option FieldType} {code k : List dm_Op} {ls : dm_Lv} {st : List Value} {σ : dm_St} {Q : Option Value → dm_St → Prop}
theorem xw_mono {Q' : Option Value → dm_St → Prop} (h : xw S d ret code k ls st σ Q) (hq : ∀ r σ', Q r σ' → Q' r σ') : xw S d ret code k ls st σ Q' := by
  obtain ⟨n, N, r, σ', h1, h2⟩ := h
  exact ⟨n, N, r, σ', h1, hq _ _ h2⟩
theorem xc_mono {mi : Nat} {as : List Value} {Q' : Option Value → dm_St → Prop} (h : xc S d mi as σ Q) (hq : ∀ r σ', Q r σ' → Q' r σ') : xc S d mi as σ Q' := by
  obtain ⟨N, r, σ', h1, h2⟩ := h
  exact ⟨N, r, σ', h1, hq _ _ h2⟩
theorem xc_deep {mi : Nat} {as : List Value} (h : xc S d mi as σ Q) : xc S (d + 1) mi as σ Q := by
  obtain ⟨N, r, σ', h1, h2⟩ := h
  exact ⟨N, r, σ', xm_deep _ _ _ _ _ h1, h2⟩
theorem xc_deeper {mi d' : Nat} {as : List Value} (hd : d ≤ d') (h : xc S d mi as σ Q) : xc S d' mi as σ Q := by
  induction d' with
  | zero => rw [show d = 0 by omega] at h; exact h
  | succ d' ih =>
    by_cases e : d = d' + 1
    · rw [← e]; exact h
    · exact xc_deep (ih (by omega))
/-- what stands behind one instruction -/
def xwy (S : dm_Sc) (d : Nat) (ret : Option FieldType) (code : List dm_Op) (Q : Option Value → dm_St → Prop) (y : dm_Nx) : Prop := match y with
  | some (.inl (r, σ')) => Q r σ'
  | some (.inr (k, ls, st, σ)) => xw S d ret code k ls st σ Q
  | none => False
theorem xw_y {o : dm_Op} {y : dm_Nx} (hy : ∀ call, xn S call ret code o k ls st σ = y) : xw S d ret code (o :: k) ls st σ Q ↔ xwy S d ret code Q y := by
  constructor
  · rintro ⟨n, N, r, σ', h1, h2⟩
    cases n with
    | zero => simp [dm_exec] at h1
    | succ n =>
      rw [xn_exec, hy] at h1
      cases y with
      | none => cases h1
      | some y =>
        cases y with
        | inl q => obtain ⟨r2, σ2⟩ := q; cases h1; exact h2
        | inr q => exact ⟨n, N, r, σ', h1, h2⟩
  · intro h
    cases y with
    | none => cases h
    | some y =>
      cases y with
      | inl q =>
        obtain ⟨r2, σ2⟩ := q
        exact ⟨1, 0, r2, σ2, by rw [xn_exec, hy]; rfl, h⟩
      | inr q =>
        obtain ⟨n, N, r, σ', h1, h2⟩ := h
        exact ⟨n + 1, N, r, σ', by rw [xn_exec, hy]; exact h1, h2⟩
/-- an instruction that goes on to the next -/
def dm_plain (i : Instr) : Bool := match i with
  | .return_ | .ireturn | .lreturn | .areturn | .goto _ | .if_icmp _ _ | .ifCond _ _ | .ifnull _ | .ifnonnull _ | .if_acmp _ _ | .tableswitch _ _ _ _ | .invokevirtual _ | .invokestatic _ | .invokespecial _ => false
  | _ => true
def xwm (S : dm_Sc) (d : Nat) (ret : Option FieldType) (code k : List dm_Op) (Q : Option Value → dm_St → Prop) (o : Option dm_Mv) : Prop := match o with
  | some (ls, st, σ) => xw S d ret code k ls st σ Q
  | none => False
theorem xw_sx {pc len : Nat} {i : Instr} {aux : List Int} (hp : dm_plain i = true) : xw S d ret code ((pc, i, len, aux) :: k) ls st σ Q ↔ xwm S d ret code k Q (dm_sx S i aux ls st σ) := by
  have hy : ∀ call, xn S call ret code (pc, i, len, aux) k ls st σ = xn_mv k (dm_sx S i aux ls st σ) := by
    intro call
    cases i <;> first | rfl | (simp [dm_plain] at hp)
  rw [xw_y hy]
  cases dm_sx S i aux ls st σ with
  | none => rfl
  | some m => rfl
theorem xw_goto {pc len : Nat} {off : Int} {aux : List Int} : xw S d ret code ((pc, .goto off, len, aux) :: k) ls st σ Q ↔ xw S d ret code (dm_jump code (pc + off)) ls st σ Q := xw_y (y := some (.inr (dm_jump code (pc + off), ls, st, σ))) (fun _ => rfl)
theorem xw_icmp {pc len : Nat} {cnd : ClassFile.Cond} {off : Int} {aux : List Int} {x y : Int32} : xw S d ret code ((pc, .if_icmp cnd off, len, aux) :: k) ls (.int y :: .int x :: st) σ Q ↔ if dm_cmp cnd x y = true then xw S d ret code (dm_jump code (pc + off)) ls st σ Q else xw S d ret code k ls st σ Q := by
  rw [xw_y (y := some (.inr (if dm_cmp cnd x y then dm_jump code (pc + off) else k, ls, st, σ))) (fun _ => rfl)]
  cases dm_cmp cnd x y <;> simp [xwy]
theorem xw_if {pc len : Nat} {cnd : ClassFile.Cond} {off : Int} {aux : List Int} {x : Int32} : xw S d ret code ((pc, .ifCond cnd off, len, aux) :: k) ls (.int x :: st) σ Q ↔ if dm_cmp cnd x 0 = true then xw S d ret code (dm_jump code (pc + off)) ls st σ Q else xw S d ret code k ls st σ Q := by
  rw [xw_y (y := some (.inr (if dm_cmp cnd x 0 then dm_jump code (pc + off) else k, ls, st, σ))) (fun _ => rfl)]
  cases dm_cmp cnd x 0 <;> simp [xwy]
theorem xw_ret {pc len : Nat} {aux : List Int} : xw S d none code ((pc, .return_, len, aux) :: k) ls [] σ Q ↔ Q none σ := xw_y (y := some (.inl (none, σ))) (fun _ => rfl)
theorem xw_iret {pc len : Nat} {aux : List Int} {ty : FieldType} {v : Int32} : xw S d (some ty) code ((pc, .ireturn, len, aux) :: k) ls [.int v] σ Q ↔ dm_fits ty v = true ∧ Q (some (.int v)) σ := by
  rw [xw_y (y := if dm_fits ty v then some (.inl (some (.int v), σ)) else none) (fun _ => rfl)]
  cases dm_fits ty v <;> simp [xwy]
theorem xw_lret {pc len : Nat} {aux : List Int} {v : Int64} : xw S d (some .long) code ((pc, .lreturn, len, aux) :: k) ls [.long v] σ Q ↔ Q (some (.long v)) σ := xw_y (y := some (.inl (some (.long v), σ))) (fun _ => rfl)
theorem xw_aret {pc len : Nat} {aux : List Int} {nm : String} {v : Value} : xw S d (some (.object nm)) code ((pc, .areturn, len, aux) :: k) ls [v] σ Q ↔ dm_isRef v = true ∧ Q (some v) σ := by
  rw [xw_y (y := if dm_isRef v then some (.inl (some v, σ)) else none) (fun _ => rfl)]
  cases dm_isRef v <;> simp [xwy]
theorem xw_nullN {pc len : Nat} {off : Int} {aux : List Int} : xw S d ret code ((pc, .ifnull off, len, aux) :: k) ls (.null :: st) σ Q ↔ xw S d ret code (dm_jump code (pc + off)) ls st σ Q := xw_y (y := some (.inr (dm_jump code (pc + off), ls, st, σ))) (fun _ => rfl)
theorem xw_nullR {pc len : Nat} {off : Int} {aux : List Int} {a : Nat} : xw S d ret code ((pc, .ifnull off, len, aux) :: k) ls (.ref a :: st) σ Q ↔ xw S d ret code k ls st σ Q := xw_y (y := some (.inr (k, ls, st, σ))) (fun _ => rfl)
theorem xw_nullX {pc len : Nat} {off : Int} {aux : List Int} {a : Nat} : xw S d ret code ((pc, .ifnull off, len, aux) :: k) ls (.retAddr a :: st) σ Q ↔ xw S d ret code k ls st σ Q := xw_y (y := some (.inr (k, ls, st, σ))) (fun _ => rfl)
theorem xw_nonN {pc len : Nat} {off : Int} {aux : List Int} : xw S d ret code ((pc, .ifnonnull off, len, aux) :: k) ls (.null :: st) σ Q ↔ xw S d ret code k ls st σ Q := xw_y (y := some (.inr (k, ls, st, σ))) (fun _ => rfl)
theorem xw_nonR {pc len : Nat} {off : Int} {aux : List Int} {a : Nat} : xw S d ret code ((pc, .ifnonnull off, len, aux) :: k) ls (.ref a :: st) σ Q ↔ xw S d ret code (dm_jump code (pc + off)) ls st σ Q := xw_y (y := some (.inr (dm_jump code (pc + off), ls, st, σ))) (fun _ => rfl)
theorem xw_nonX {pc len : Nat} {off : Int} {aux : List Int} {a : Nat} : xw S d ret code ((pc, .ifnonnull off, len, aux) :: k) ls (.retAddr a :: st) σ Q ↔ xw S d ret code (dm_jump code (pc + off)) ls st σ Q := xw_y (y := some (.inr (dm_jump code (pc + off), ls, st, σ))) (fun _ => rfl)
theorem xw_acmpN {pc len : Nat} {off : Int} {aux : List Int} {y : Nat} : xw S d ret code ((pc, .if_acmp .ne off, len, aux) :: k) ls (.retAddr y :: .null :: st) σ Q ↔ y < 37 ∧ xw S d ret code (dm_jump code (pc + off)) ls st σ Q := by
  rw [xw_y (y := if y < 37 then some (.inr (dm_jump code (pc + off), ls, st, σ)) else none) (fun _ => rfl)]
  by_cases h : y < 37 <;> simp [xwy, h]
theorem xw_acmpX {pc len : Nat} {off : Int} {aux : List Int} {x y : Nat} : xw S d ret code ((pc, .if_acmp .ne off, len, aux) :: k) ls (.retAddr y :: .retAddr x :: st) σ Q ↔ (y < 37 ∧ x < 37) ∧ if x = y then xw S d ret code k ls st σ Q else xw S d ret code (dm_jump code (pc + off)) ls st σ Q := by
  rw [xw_y (y := if y < 37 ∧ x < 37 then some (.inr (if x = y then k else dm_jump code (pc + off), ls, st, σ)) else none) (fun _ => rfl)]
  by_cases h : y < 37 ∧ x < 37
  · by_cases h2 : x = y
    · rw [if_pos h, if_pos h2, if_pos h2]; simp only [xwy, h, true_and, and_self]
    · rw [if_pos h, if_neg h2, if_neg h2]; simp only [xwy, h, true_and, and_self]
  · rw [if_neg h]; simp only [xwy, h, false_and]
theorem xw_tsw {pc len : Nat} {dflt lo hi : Int} {offs : Array Int} {aux : List Int} {x : Int32} : xw S d ret code ((pc, .tableswitch dflt lo hi offs, len, aux) :: k) ls (.int x :: st) σ Q ↔ if x.toInt < lo ∨ hi < x.toInt then xw S d ret code (dm_jump code (pc + dflt)) ls st σ Q else (match offs[(x.toInt - lo).toNat]? with
      | some off => xw S d ret code (dm_jump code (pc + off)) ls st σ Q
      | none => False) := by
  rw [xw_y (y := if x.toInt < lo ∨ hi < x.toInt then some (.inr (dm_jump code (pc + dflt), ls, st, σ)) else (match offs[(x.toInt - lo).toNat]? with
        | some off => some (.inr (dm_jump code (pc + off), ls, st, σ))
        | none => none)) (fun _ => rfl)]
  by_cases h : x.toInt < lo ∨ hi < x.toInt
  · rw [if_pos h, if_pos h]; rfl
  · rw [if_neg h, if_neg h]
    cases offs[(x.toInt - lo).toNat]? <;> rfl
theorem xw_cpy {pc len ix : Nat} {w : Int} : xw S d ret code ((pc, .invokestatic ix, len, [4, w]) :: k) ls st σ Q ↔ xwm S d ret code k Q (dm_acopy ls st σ) := by
  rw [xw_y (y := xn_mv k (dm_acopy ls st σ)) (fun _ => rfl)]
  cases dm_acopy ls st σ <;> rfl
theorem xw_obj {pc len ix : Nat} {w : Int} {a : Nat} : xw S d ret code ((pc, .invokespecial ix, len, [3, w]) :: k) ls (.ref a :: st) σ Q ↔ dm_wait st = true ∧ xw S d ret code k ls st σ Q := by
  rw [xw_y (y := xn_mv k (if dm_wait st then some (ls, st, σ) else none)) (fun _ => rfl)]
  cases dm_wait st <;> simp [xwy, xn_mv]
theorem xw_max {pc len ix : Nat} {w : Int} {x y : Int32} : xw S d ret code ((pc, .invokestatic ix, len, [6, w]) :: k) ls (.int y :: .int x :: st) σ Q ↔ dm_wait st = true ∧ xw S d ret code k ls (.int (if x < y then y else x) :: st) σ Q := by
  rw [xw_y (y := xn_mv k (if dm_wait st then some (ls, .int (if x < y then y else x) :: st, σ) else none)) (fun _ => rfl)]
  cases dm_wait st <;> simp [xwy, xn_mv]
theorem xw_min {pc len ix : Nat} {w : Int} {x y : Int32} : xw S d ret code ((pc, .invokestatic ix, len, [7, w]) :: k) ls (.int y :: .int x :: st) σ Q ↔ dm_wait st = true ∧ xw S d ret code k ls (.int (if y < x then y else x) :: st) σ Q := by
  rw [xw_y (y := xn_mv k (if dm_wait st then some (ls, .int (if y < x then y else x) :: st, σ) else none)) (fun _ => rfl)]
  cases dm_wait st <;> simp [xwy, xn_mv]
theorem xw_inv0 {o : dm_Op} {kd mi na ci : Int} {tl : List Int} (ho : ∀ call, xn S call ret code o k ls st σ = xn_mv k (dm_inv call (kd :: mi :: na :: ci :: tl) ls st σ)) : xw S d ret code (o :: k) ls st σ Q ↔
    (na.toNat ≤ st.length ∧ dm_wait (st.drop na.toNat) = true ∧ (kd = 1 ∨ dm_rcv σ ci.toNat (st.take na.toNat).reverse = true)) ∧ xc S d mi.toNat (st.take na.toNat).reverse σ (fun r σ' => xw S d ret code k ls (r.toList ++ st.drop na.toNat) σ' Q) := by
  constructor
  · rintro ⟨n, N, r, σ', h1, h2⟩
    cases n with
    | zero => simp [dm_exec] at h1
    | succ n =>
      rw [xn_exec, ho] at h1
      simp only [dm_inv] at h1
      split at h1
      · rename_i hc
        refine ⟨hc, ?_⟩
        split at h1
        · rename_i r1 σ1 hr
          exact ⟨N, r1, σ1, hr, n, N, r, σ', h1, h2⟩
        · cases h1
      · cases h1
  · rintro ⟨hc, N1, r1, σ1, hr, n, N, r, σ', h1, h2⟩
    refine ⟨n + 1, max N1 N, r, σ', ?_, h2⟩
    rw [xn_exec, ho]
    simp only [dm_inv]
    rw [if_pos hc, xm_run (Nat.le_max_left N1 N) _ _ _ _ _ hr]
    exact xm_exec (fun mi as σ x h => xm_run (Nat.le_max_right N1 N) _ mi as σ x h) n n (Nat.le_refl n) _ _ _ _ _ h1
/-- a method's condition is its body's -/
theorem xc_body {mi : Nat} {as : List Value} {row : dm_Row} (hrow : dm_tab mi = some row) (hb : Nat.ble ((as.map fun v => v.category).sum) row.2.2.1 = true) : xc S (d + 1) mi as σ Q ↔ xw S d row.2.2.2.1 row.2.2.2.2.2 row.2.2.2.2.2 (lv_args 0 as) [] σ Q := by
  constructor
  · rintro ⟨N, r, σ', h1, h2⟩
    obtain ⟨-, h3⟩ := dm_run_row hrow h1
    exact ⟨N, N, r, σ', h3, h2⟩
  · rintro ⟨n, N, r, σ', h1, h2⟩
    refine ⟨max n N, r, σ', ?_, h2⟩
    unfold dm_run
    rw [hrow]
    dsimp only
    rw [if_pos hb]
    exact xm_exec (fun mi as σ x h => xm_run (Nat.le_max_right n N) _ mi as σ x h) n _ (Nat.le_max_left n N) _ _ _ _ _ h1
/-- two runs end alike -/
theorem xc_det {mi : Nat} {as : List Value} {r1 r2 : Option Value} {σ1 σ2 : dm_St} (h1 : xc S d mi as σ (fun r σ' => r = r1 ∧ σ' = σ1)) (h2 : xc S d mi as σ (fun r σ' => r = r2 ∧ σ' = σ2)) : r1 = r2 ∧ σ1 = σ2 := by
  obtain ⟨N1, _, _, h1, rfl, rfl⟩ := h1
  obtain ⟨N2, _, _, h2, rfl, rfl⟩ := h2
  have e1 := xm_run (Nat.le_max_left N1 N2) _ _ _ _ _ h1
  have e2 := xm_run (Nat.le_max_right N1 N2) _ _ _ _ _ h2
  rw [e1] at e2
  cases e2
  exact ⟨rfl, rfl⟩
/-- a method that is known to end so -/
theorem xc_iff {mi : Nat} {as : List Value} {r1 : Option Value} {σ1 : dm_St} (h1 : xc S d mi as σ (fun r σ' => r = r1 ∧ σ' = σ1)) : xc S d mi as σ Q ↔ Q r1 σ1 := by
  constructor
  · rintro ⟨N, r, σ', h, hq⟩
    obtain ⟨rfl, rfl⟩ := xc_det h1 ⟨N, r, σ', h, rfl, rfl⟩
    exact hq
  · intro hq
    exact xc_mono h1 (fun r σ' h => by rw [h.1, h.2]; exact hq)
end XW
