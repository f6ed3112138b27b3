/-! THE PURE SIDE: an instruction's next place; more fuel changes nothing. -/
abbrev dm_Nx : Type := Option ((Option Value × dm_St) ⊕ (List dm_Op × dm_Lv × List Value × dm_St))
def xn_mv (k : List dm_Op) (o : Option dm_Mv) : dm_Nx := o.map (fun m => .inr (k, m))
def xn (S : dm_Sc) (call : Nat → List Value → dm_St → dm_Rs) (ret : Option FieldType) (code : List dm_Op) (o : dm_Op) (k : List dm_Op) (ls : dm_Lv) (st : List Value) (σ : dm_St) : dm_Nx := match o.2.1 with
  | .return_ => match ret, st with
    | none, [] => some (.inl (none, σ))
    | _, _ => none
  | .ireturn => match ret, st with
    | some ty, [.int v] => if dm_fits ty v then some (.inl (some (.int v), σ)) else none
    | _, _ => none
  | .lreturn => match ret, st with
    | some .long, [.long v] => some (.inl (some (.long v), σ))
    | _, _ => none
  | .areturn => match ret, st with
    | some (.object _), [v] => if dm_isRef v then some (.inl (some v, σ)) else none
    | _, _ => none
  | .goto off => some (.inr (dm_jump code (o.1 + off), ls, st, σ))
  | .if_icmp cnd off => match st with
    | .int y :: .int x :: st => some (.inr (if dm_cmp cnd x y then dm_jump code (o.1 + off) else k, ls, st, σ))
    | _ => none
  | .ifCond cnd off => match st with
    | .int x :: st => some (.inr (if dm_cmp cnd x 0 then dm_jump code (o.1 + off) else k, ls, st, σ))
    | _ => none
  | .ifnull off => match st with
    | .null :: st => some (.inr (dm_jump code (o.1 + off), ls, st, σ))
    | .ref _ :: st => some (.inr (k, ls, st, σ))
    | .retAddr _ :: st => some (.inr (k, ls, st, σ))
    | _ => none
  | .ifnonnull off => match st with
    | .null :: st => some (.inr (k, ls, st, σ))
    | .ref _ :: st => some (.inr (dm_jump code (o.1 + off), ls, st, σ))
    | .retAddr _ :: st => some (.inr (dm_jump code (o.1 + off), ls, st, σ))
    | _ => none
  | .if_acmp .ne off => match st with
    | .retAddr y :: .null :: st => if y < 37 then some (.inr (dm_jump code (o.1 + off), ls, st, σ)) else none
    | .retAddr y :: .retAddr x :: st => if y < 37 ∧ x < 37 then some (.inr (if x = y then k else dm_jump code (o.1 + off), ls, st, σ)) else none
    | _ => none
  | .tableswitch dflt lo hi offs => match st with
    | .int x :: st => if x.toInt < lo ∨ hi < x.toInt then some (.inr (dm_jump code (o.1 + dflt), ls, st, σ))
      else match offs[(x.toInt - lo).toNat]? with
        | some off => some (.inr (dm_jump code (o.1 + off), ls, st, σ))
        | none => none
    | _ => none
  | .invokevirtual _ => xn_mv k (dm_inv call o.2.2.2 ls st σ)
  | .invokestatic _ => xn_mv k (dm_inv call o.2.2.2 ls st σ)
  | .invokespecial _ => xn_mv k (dm_inv call o.2.2.2 ls st σ)
  | i => xn_mv k (dm_sx S i o.2.2.2 ls st σ)
def xn_go (f : List dm_Op → dm_Lv → List Value → dm_St → dm_Rs) (x : dm_Nx) : dm_Rs := match x with
  | some (.inl r) => some r
  | some (.inr (k, ls, st, σ)) => f k ls st σ
  | none => none
set_option maxHeartbeats 8000000 in
theorem xn_exec (S : dm_Sc) (call : Nat → List Value → dm_St → dm_Rs) (ret : Option FieldType) (code : List dm_Op) (n : Nat) (o : dm_Op) (k : List dm_Op) (ls : dm_Lv) (st : List Value) (σ : dm_St) : dm_exec S call ret code (n + 1) (o :: k) ls st σ = xn_go (dm_exec S call ret code n) (xn S call ret code o k ls st σ) := by
  obtain ⟨pc, i, len, aux⟩ := o
  have hmv : ∀ o : Option dm_Mv, (match o with
      | some (ls, st, σ) => dm_exec S call ret code n k ls st σ
      | none => none) = xn_go (dm_exec S call ret code n) (xn_mv k o) := by
    intro o
    cases o with
    | none => rfl
    | some m => rfl
  cases i
  case if_acmp cnd off =>
    cases cnd with
    | eq => exact hmv (dm_sx S (.if_acmp .eq off) aux ls st σ)
    | ne =>
      rcases st with _ | ⟨v, st⟩
      · rfl
      · cases v with
        | retAddr y =>
          rcases st with _ | ⟨w, st⟩
          · rfl
          · cases w with
            | null =>
              simp only [dm_exec, xn]
              split <;> rfl
            | retAddr x =>
              simp only [dm_exec, xn]
              split <;> rfl
            | _ => rfl
        | _ => rfl
  case tableswitch d lo hi offs =>
    rcases st with _ | ⟨v, st⟩
    · rfl
    · cases v with
      | int x =>
        simp only [dm_exec, xn]
        split
        · rfl
        · cases offs[(x.toInt - lo).toNat]? <;> rfl
      | _ => rfl
  all_goals first
    | exact hmv _
    | rfl
    | (simp only [dm_exec, xn]
       repeat' split
       all_goals first | rfl | (simp_all [xn_go]; done))
