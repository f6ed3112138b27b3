/-! The law: its calls, two of them its own, that catch what is thrown. -/
def kLl_19 : List dm_Op := (19, .aload_n 0, 1, []) :: (20, .getfield 39, 3, [10, 5, 0, 1111]) :: (23, .aload_n 0, 1, []) :: (24, .getfield 19, 3, [10, 1, 0, 1107]) :: (27, .iload_n 1, 1, []) :: (28, .iload_n 2, 1, []) :: (29, .invokevirtual 255, 3, [0, 80, 4, 7, 0, 5041]) :: (32, .ireturn, 1, []) :: []
def kLs_19 : List dm_Op := (19, .aload_n 0, 1, []) :: (20, .getfield 39, 3, [10, 5, 0, 1111]) :: (23, .aload_n 0, 1, []) :: (24, .getfield 19, 3, [10, 1, 0, 1107]) :: (27, .iload_n 1, 1, []) :: (28, .invokevirtual 200, 3, [0, 76, 3, 7, 0, 4027]) :: (31, .aload_n 0, 1, []) :: (32, .getfield 39, 3, [10, 5, 0, 1111]) :: (35, .aload_n 0, 1, []) :: (36, .getfield 19, 3, [10, 1, 0, 1107]) :: (39, .iload_n 1, 1, []) :: (40, .iload_n 2, 1, []) :: (41, .invokevirtual 255, 3, [0, 80, 4, 7, 0, 5041]) :: (44, .iconst 2, 1, []) :: (45, .idiv, 1, []) :: (46, .isub, 1, []) :: (47, .ireturn, 1, []) :: []
/-- the rest of PulseRent.lease and share, behind the test -/
def lzk (b : Bool) : List dm_Op := if b = true then kLs_19 else kLl_19
def lz (S : dm_Sc) (d N : Nat) (b : Bool) (as : List Value) (σ : dm_St) : dm_Rs := match as with
  | [.ref x, .int p, .int q, .ref o] => if (dm_sh σ)[x]? = some (.inl 10) then (match dm_run S dm_tab d N 142 [.ref x, .int p, .int q] σ with
    | some (some (.int t), σ1) =>
      if t = 0 then some (some (.int 1), (σ1.1, (σ1.2.1.1 + 1, σ1.2.1.2 + 6), σ1.2.2))
      else match dm_exec S (dm_run S dm_tab d N) (some .int) (lzk b) N (lzk b) (lvs [.ref x, .int p, .int q]) [] σ1 with
        | some (some (.int v), σ2) => if (dm_sh σ2)[o]? = some (.inr (1, 1)) then some (some (.int 0), (σ2.1, σ2.2.1, σ2.2.2.1, dm_up σ2.2.2.2.1 o 0 v.toInt64, σ2.2.2.2.2)) else none
        | _ => none
    | _ => none) else none
  | _ => none
def lcall (S : dm_Sc) (d N mi : Nat) (as : List Value) (σ : dm_St) : dm_Rs := if mi = 1000 then lz S (d - 2) N false as σ else if mi = 1001 then lz S (d - 2) N true as σ else dm_run S dm_tab d N mi as σ
theorem lz_mono {S : dm_Sc} {d n n' : Nat} (hn : n ≤ n') {b : Bool} {as : List Value} {σ : dm_St} {x : Option Value × dm_St} (h : lz S d n b as σ = some x) : lz S d n' b as σ = some x := by
  unfold lz at h ⊢
  split at h
  · rename_i x p q o
    split at h
    · rename_i hsx
      rw [if_pos hsx]
      split at h
      · rename_i t σ1 hr
        rw [xm_run hn _ _ _ _ _ hr]
        dsimp only
        split at h
        · rename_i ht
          rw [if_pos ht]; exact h
        · rename_i ht
          rw [if_neg ht]
          split at h
          · rename_i v σ2 he
            rw [xm_exec (fun mi as σ x h => xm_run hn _ mi as σ x h) n n' hn _ _ _ _ _ he]
            exact h
          · cases h
      · cases h
    · cases h
  · cases h
theorem Yxm_run {S : dm_Sc} {n n' : Nat} (hn : n ≤ n') : ∀ (d mi : Nat) (as : List Value) (σ : dm_St) (x : Option Value × dm_St), lcall S d n mi as σ = some x → lcall S d n' mi as σ = some x := by
  intro d mi as σ x h
  unfold lcall at h ⊢
  split at h
  · rename_i e; rw [if_pos e]; exact lz_mono hn h
  · rename_i e
    rw [if_neg e]
    split at h
    · rename_i e2; rw [if_pos e2]; exact lz_mono hn h
    · rename_i e2; rw [if_neg e2]; exact xm_run hn _ _ _ _ _ h
section YW
variable {S : dm_Sc} {d : Nat} {ret : Option FieldType} {code k : List dm_Op} {ls : dm_Lv} {st : List Value} {σ : dm_St} {Q : Option Value → dm_St → Prop}
def Yxw (S : dm_Sc) (d : Nat) (ret : Option FieldType) (code k : List dm_Op) (ls : dm_Lv) (st : List Value) (σ : dm_St) (Q : Option Value → dm_St → Prop) : Prop := ∃ (n N : Nat) (r : Option Value) (σ' : dm_St), dm_exec S (lcall S d N) ret code n k ls st σ = some (r, σ') ∧ Q r σ'
def Yxc (S : dm_Sc) (d mi : Nat) (as : List Value) (σ : dm_St) (Q : Option Value → dm_St → Prop) : Prop := ∃ (N : Nat) (r : Option Value) (σ' : dm_St), lcall S d N mi as σ = some (r, σ') ∧ Q r σ'
theorem Yxw_mono {Q' : Option Value → dm_St → Prop} (h : Yxw S d ret code k ls st σ Q) (hq : ∀ r σ', Q r σ' → Q' r σ') : Yxw S d ret code k ls st σ Q' := by
  obtain ⟨n, N, r, σ', h1, h2⟩ := h
  exact ⟨n, N, r, σ', h1, hq _ _ h2⟩
theorem Yxc_mono {mi : Nat} {as : List Value} {Q' : Option Value → dm_St → Prop} (h : Yxc S d mi as σ Q) (hq : ∀ r σ', Q r σ' → Q' r σ') : Yxc S d mi as σ Q' := by
  obtain ⟨N, r, σ', h1, h2⟩ := h
  exact ⟨N, r, σ', h1, hq _ _ h2⟩
def Yxwy (S : dm_Sc) (d : Nat) (ret : Option FieldType) (code : List dm_Op) (Q : Option Value → dm_St → Prop) (y : dm_Nx) : Prop := match y with
  | some (.inl (r, σ')) => Q r σ'
  | some (.inr (k, ls, st, σ)) => Yxw S d ret code k ls st σ Q
  | none => False
theorem Yxw_y {o : dm_Op} {y : dm_Nx} (hy : ∀ call, xn S call ret code o k ls st σ = y) : Yxw S d ret code (o :: k) ls st σ Q ↔ Yxwy S d ret code Q y := by
  constructor
  · rintro ⟨n, N, r, σ', h1, h2⟩
    cases n with
    | zero => simp [dm_exec] at h1
    | succ n =>
      rw [xn_exec, hy] at h1
      cases y with
      | none => cases h1
      | some y =>
        cases y with
        | inl q => obtain ⟨r2, σ2⟩ := q; cases h1; exact h2
        | inr q => exact ⟨n, N, r, σ', h1, h2⟩
  · intro h
    cases y with
    | none => cases h
    | some y =>
      cases y with
      | inl q =>
        obtain ⟨r2, σ2⟩ := q
        exact ⟨1, 0, r2, σ2, by rw [xn_exec, hy]; rfl, h⟩
      | inr q =>
        obtain ⟨n, N, r, σ', h1, h2⟩ := h
        exact ⟨n + 1, N, r, σ', by rw [xn_exec, hy]; exact h1, h2⟩
def Yxwm (S : dm_Sc) (d : Nat) (ret : Option FieldType) (code k : List dm_Op) (Q : Option Value → dm_St → Prop) (o : Option dm_Mv) : Prop := match o with
  | some (ls, st, σ) => Yxw S d ret code k ls st σ Q
  | none => False
theorem Yxw_sx {pc len : Nat} {i : Instr} {aux : List Int} (hp : dm_plain i = true) : Yxw S d ret code ((pc, i, len, aux) :: k) ls st σ Q ↔ Yxwm S d ret code k Q (dm_sx S i aux ls st σ) := by
  have hy : ∀ call, xn S call ret code (pc, i, len, aux) k ls st σ = xn_mv k (dm_sx S i aux ls st σ) := by
    intro call
    cases i <;> first | rfl | (simp [dm_plain] at hp)
  rw [Yxw_y hy]
  cases dm_sx S i aux ls st σ with
  | none => rfl
  | some m => rfl
theorem Yxw_goto {pc len : Nat} {off : Int} {aux : List Int} : Yxw S d ret code ((pc, .goto off, len, aux) :: k) ls st σ Q ↔ Yxw S d ret code (dm_jump code (pc + off)) ls st σ Q := Yxw_y (y := some (.inr (dm_jump code (pc + off), ls, st, σ))) (fun _ => rfl)
theorem Yxw_icmp {pc len : Nat} {cnd : ClassFile.Cond} {off : Int} {aux : List Int} {x y : Int32} : Yxw S d ret code ((pc, .if_icmp cnd off, len, aux) :: k) ls (.int y :: .int x :: st) σ Q ↔ if dm_cmp cnd x y = true then Yxw S d ret code (dm_jump code (pc + off)) ls st σ Q else Yxw S d ret code k ls st σ Q := by
  rw [Yxw_y (y := some (.inr (if dm_cmp cnd x y then dm_jump code (pc + off) else k, ls, st, σ))) (fun _ => rfl)]
  cases dm_cmp cnd x y <;> simp [Yxwy]
theorem Yxw_if {pc len : Nat} {cnd : ClassFile.Cond} {off : Int} {aux : List Int} {x : Int32} : Yxw S d ret code ((pc, .ifCond cnd off, len, aux) :: k) ls (.int x :: st) σ Q ↔ if dm_cmp cnd x 0 = true then Yxw S d ret code (dm_jump code (pc + off)) ls st σ Q else Yxw S d ret code k ls st σ Q := by
  rw [Yxw_y (y := some (.inr (if dm_cmp cnd x 0 then dm_jump code (pc + off) else k, ls, st, σ))) (fun _ => rfl)]
  cases dm_cmp cnd x 0 <;> simp [Yxwy]
theorem Yxw_ret {pc len : Nat} {aux : List Int} : Yxw S d none code ((pc, .return_, len, aux) :: k) ls [] σ Q ↔ Q none σ := Yxw_y (y := some (.inl (none, σ))) (fun _ => rfl)
theorem Yxw_iret {pc len : Nat} {aux : List Int} {ty : FieldType} {v : Int32} : Yxw S d (some ty) code ((pc, .ireturn, len, aux) :: k) ls [.int v] σ Q ↔ dm_fits ty v = true ∧ Q (some (.int v)) σ := by
  rw [Yxw_y (y := if dm_fits ty v then some (.inl (some (.int v), σ)) else none) (fun _ => rfl)]
  cases dm_fits ty v <;> simp [Yxwy]
theorem Yxw_tsw {pc len : Nat} {dflt lo hi : Int} {offs : Array Int} {aux : List Int} {x : Int32} : Yxw S d ret code ((pc, .tableswitch dflt lo hi offs, len, aux) :: k) ls (.int x :: st) σ Q ↔ if x.toInt < lo ∨ hi < x.toInt then Yxw S d ret code (dm_jump code (pc + dflt)) ls st σ Q else (match offs[(x.toInt - lo).toNat]? with
      | some off => Yxw S d ret code (dm_jump code (pc + off)) ls st σ Q
      | none => False) := by
  rw [Yxw_y (y := if x.toInt < lo ∨ hi < x.toInt then some (.inr (dm_jump code (pc + dflt), ls, st, σ)) else (match offs[(x.toInt - lo).toNat]? with
        | some off => some (.inr (dm_jump code (pc + off), ls, st, σ))
        | none => none)) (fun _ => rfl)]
  by_cases h : x.toInt < lo ∨ hi < x.toInt
  · rw [if_pos h, if_pos h]; rfl
  · rw [if_neg h, if_neg h]
    cases offs[(x.toInt - lo).toNat]? <;> rfl
theorem Yxw_inv0 {o : dm_Op} {kd mi na ci : Int} {tl : List Int} (ho : ∀ call, xn S call ret code o k ls st σ = xn_mv k (dm_inv call (kd :: mi :: na :: ci :: tl) ls st σ)) : Yxw S d ret code (o :: k) ls st σ Q ↔
    (na.toNat ≤ st.length ∧ dm_wait (st.drop na.toNat) = true ∧ (kd = 1 ∨ dm_rcv σ ci.toNat (st.take na.toNat).reverse = true)) ∧ Yxc S d mi.toNat (st.take na.toNat).reverse σ (fun r σ' => Yxw S d ret code k ls (r.toList ++ st.drop na.toNat) σ' Q) := by
  constructor
  · rintro ⟨n, N, r, σ', h1, h2⟩
    cases n with
    | zero => simp [dm_exec] at h1
    | succ n =>
      rw [xn_exec, ho] at h1
      simp only [dm_inv] at h1
      split at h1
      · rename_i hc
        refine ⟨hc, ?_⟩
        split at h1
        · rename_i r1 σ1 hr
          exact ⟨N, r1, σ1, hr, n, N, r, σ', h1, h2⟩
        · cases h1
      · cases h1
  · rintro ⟨hc, N1, r1, σ1, hr, n, N, r, σ', h1, h2⟩
    refine ⟨n + 1, max N1 N, r, σ', ?_, h2⟩
    rw [xn_exec, ho]
    simp only [dm_inv]
    rw [if_pos hc, Yxm_run (Nat.le_max_left N1 N) _ _ _ _ _ hr]
    exact xm_exec (fun mi as σ x h => Yxm_run (Nat.le_max_right N1 N) _ mi as σ x h) n n (Nat.le_refl n) _ _ _ _ _ h1
theorem Yxw_v1 {pc len ix : Nat} {mi ci : Int} {tl : List Int} {v1 : Value} : Yxw S d ret code ((pc, .invokevirtual ix, len, 0 :: mi :: 1 :: ci :: tl) :: k) ls (v1 :: st) σ Q ↔ (dm_wait st = true ∧ dm_rcv σ ci.toNat [v1] = true) ∧ Yxc S d mi.toNat [v1] σ (fun r σ' => Yxw S d ret code k ls (r.toList ++ st) σ' Q) := by
  rw [Yxw_inv0 (kd := 0) (mi := mi) (na := 1) (ci := ci) (tl := tl) (fun _ => rfl)]
  simp
theorem Yxw_v2 {pc len ix : Nat} {mi ci : Int} {tl : List Int} {v1 v2 : Value} : Yxw S d ret code ((pc, .invokevirtual ix, len, 0 :: mi :: 2 :: ci :: tl) :: k) ls (v2 :: v1 :: st) σ Q ↔ (dm_wait st = true ∧ dm_rcv σ ci.toNat [v1, v2] = true) ∧ Yxc S d mi.toNat [v1, v2] σ (fun r σ' => Yxw S d ret code k ls (r.toList ++ st) σ' Q) := by
  rw [Yxw_inv0 (kd := 0) (mi := mi) (na := 2) (ci := ci) (tl := tl) (fun _ => rfl)]
  simp
theorem Yxw_v3 {pc len ix : Nat} {mi ci : Int} {tl : List Int} {v1 v2 v3 : Value} : Yxw S d ret code ((pc, .invokevirtual ix, len, 0 :: mi :: 3 :: ci :: tl) :: k) ls (v3 :: v2 :: v1 :: st) σ Q ↔ (dm_wait st = true ∧ dm_rcv σ ci.toNat [v1, v2, v3] = true) ∧ Yxc S d mi.toNat [v1, v2, v3] σ (fun r σ' => Yxw S d ret code k ls (r.toList ++ st) σ' Q) := by
  rw [Yxw_inv0 (kd := 0) (mi := mi) (na := 3) (ci := ci) (tl := tl) (fun _ => rfl)]
  simp
theorem Yxw_v4 {pc len ix : Nat} {mi ci : Int} {tl : List Int} {v1 v2 v3 v4 : Value} : Yxw S d ret code ((pc, .invokevirtual ix, len, 0 :: mi :: 4 :: ci :: tl) :: k) ls (v4 :: v3 :: v2 :: v1 :: st) σ Q ↔ (dm_wait st = true ∧ dm_rcv σ ci.toNat [v1, v2, v3, v4] = true) ∧ Yxc S d mi.toNat [v1, v2, v3, v4] σ (fun r σ' => Yxw S d ret code k ls (r.toList ++ st) σ' Q) := by
  rw [Yxw_inv0 (kd := 0) (mi := mi) (na := 4) (ci := ci) (tl := tl) (fun _ => rfl)]
  simp
theorem Yxw_v5 {pc len ix : Nat} {mi ci : Int} {tl : List Int} {v1 v2 v3 v4 v5 : Value} : Yxw S d ret code ((pc, .invokevirtual ix, len, 0 :: mi :: 5 :: ci :: tl) :: k) ls (v5 :: v4 :: v3 :: v2 :: v1 :: st) σ Q ↔ (dm_wait st = true ∧ dm_rcv σ ci.toNat [v1, v2, v3, v4, v5] = true) ∧ Yxc S d mi.toNat [v1, v2, v3, v4, v5] σ (fun r σ' => Yxw S d ret code k ls (r.toList ++ st) σ' Q) := by
  rw [Yxw_inv0 (kd := 0) (mi := mi) (na := 5) (ci := ci) (tl := tl) (fun _ => rfl)]
  simp
theorem Yxw_s4 {pc len ix : Nat} {mi ci : Int} {tl : List Int} {v1 v2 v3 v4 : Value} : Yxw S d ret code ((pc, .invokestatic ix, len, 1 :: mi :: 4 :: ci :: tl) :: k) ls (v4 :: v3 :: v2 :: v1 :: st) σ Q ↔ (dm_wait st = true) ∧ Yxc S d mi.toNat [v1, v2, v3, v4] σ (fun r σ' => Yxw S d ret code k ls (r.toList ++ st) σ' Q) := by
  rw [Yxw_inv0 (kd := 1) (mi := mi) (na := 4) (ci := ci) (tl := tl) (fun _ => rfl)]
  simp
theorem Yxw_p1 {pc len ix : Nat} {mi ci : Int} {tl : List Int} {v1 : Value} : Yxw S d ret code ((pc, .invokespecial ix, len, 2 :: mi :: 1 :: ci :: tl) :: k) ls (v1 :: st) σ Q ↔ (dm_wait st = true ∧ dm_rcv σ ci.toNat [v1] = true) ∧ Yxc S d mi.toNat [v1] σ (fun r σ' => Yxw S d ret code k ls (r.toList ++ st) σ' Q) := by
  rw [Yxw_inv0 (kd := 2) (mi := mi) (na := 1) (ci := ci) (tl := tl) (fun _ => rfl)]
  simp
theorem Yxi_iadd {pc len : Nat} {aux : List Int} {x y : Int32} : Yxw S d ret code ((pc, .iadd, len, aux) :: k) ls (.int y :: .int x :: st) σ Q ↔ Yxw S d ret code k ls (.int (x + y) :: st) σ Q := Yxw_sx rfl
theorem Yxi_isub {pc len : Nat} {aux : List Int} {x y : Int32} : Yxw S d ret code ((pc, .isub, len, aux) :: k) ls (.int y :: .int x :: st) σ Q ↔ Yxw S d ret code k ls (.int (x - y) :: st) σ Q := Yxw_sx rfl
theorem Yxi_iand {pc len : Nat} {aux : List Int} {x y : Int32} : Yxw S d ret code ((pc, .iand, len, aux) :: k) ls (.int y :: .int x :: st) σ Q ↔ Yxw S d ret code k ls (.int (x &&& y) :: st) σ Q := Yxw_sx rfl
theorem Yxi_land {pc len : Nat} {aux : List Int} {x y : Int64} : Yxw S d ret code ((pc, .land, len, aux) :: k) ls (.long y :: .long x :: st) σ Q ↔ Yxw S d ret code k ls (.long (x &&& y) :: st) σ Q := Yxw_sx rfl
theorem Yxi_lor {pc len : Nat} {aux : List Int} {x y : Int64} : Yxw S d ret code ((pc, .lor, len, aux) :: k) ls (.long y :: .long x :: st) σ Q ↔ Yxw S d ret code k ls (.long (x ||| y) :: st) σ Q := Yxw_sx rfl
theorem Yxi_lshl {pc len : Nat} {aux : List Int} {x : Int64} {y : Int32} : Yxw S d ret code ((pc, .lshl, len, aux) :: k) ls (.int y :: .long x :: st) σ Q ↔ Yxw S d ret code k ls (.long (x <<< (y.toInt64 &&& 63)) :: st) σ Q := Yxw_sx rfl
theorem Yxi_lcmp {pc len : Nat} {aux : List Int} {x y : Int64} : Yxw S d ret code ((pc, .lcmp, len, aux) :: k) ls (.long y :: .long x :: st) σ Q ↔ Yxw S d ret code k ls (.int (lg_cmp x y) :: st) σ Q := Yxw_sx rfl
theorem Yxi_i2l {pc len : Nat} {aux : List Int} {x : Int32} : Yxw S d ret code ((pc, .i2l, len, aux) :: k) ls (.int x :: st) σ Q ↔ Yxw S d ret code k ls (.long x.toInt64 :: st) σ Q := Yxw_sx rfl
theorem Yxi_iconst {pc len : Nat} {aux : List Int} {v : Int} : Yxw S d ret code ((pc, .iconst v, len, aux) :: k) ls (st) σ Q ↔ Yxw S d ret code k ls (.int (Int32.ofInt v) :: st) σ Q := Yxw_sx rfl
theorem Yxi_bipush {pc len : Nat} {aux : List Int} {v : Int} : Yxw S d ret code ((pc, .bipush v, len, aux) :: k) ls (st) σ Q ↔ Yxw S d ret code k ls (.int (Int8.ofInt v).toInt32 :: st) σ Q := Yxw_sx rfl
theorem Yxi_ldc2 {pc len : Nat} {aux : List Int} {ix : Nat} {v : Int} {tl : List Int} : Yxw S d ret code ((pc, .ldc2_w ix, len, v :: tl) :: k) ls st σ Q ↔ Yxw S d ret code k ls (.long (Int64.ofInt v) :: st) σ Q := Yxw_sx rfl
theorem Yxi_iload {pc len : Nat} {aux : List Int} {i : Nat} : Yxw S d ret code ((pc, .iload i, len, aux) :: k) ls (st) σ Q ↔ Yxwm S d ret code k Q (dm_ld ls st σ i dm_kI) := Yxw_sx rfl
theorem Yxi_aload_0 {pc len : Nat} {aux : List Int} : Yxw S d ret code ((pc, .aload_n 0, len, aux) :: k) ls (st) σ Q ↔ Yxwm S d ret code k Q (dm_ld ls st σ 0 dm_kA) := Yxw_sx rfl
theorem Yxi_aload_1 {pc len : Nat} {aux : List Int} : Yxw S d ret code ((pc, .aload_n 1, len, aux) :: k) ls (st) σ Q ↔ Yxwm S d ret code k Q (dm_ld ls st σ 1 dm_kA) := Yxw_sx rfl
theorem Yxi_aload_2 {pc len : Nat} {aux : List Int} : Yxw S d ret code ((pc, .aload_n 2, len, aux) :: k) ls (st) σ Q ↔ Yxwm S d ret code k Q (dm_ld ls st σ 2 dm_kA) := Yxw_sx rfl
theorem Yxi_aload_3 {pc len : Nat} {aux : List Int} : Yxw S d ret code ((pc, .aload_n 3, len, aux) :: k) ls (st) σ Q ↔ Yxwm S d ret code k Q (dm_ld ls st σ 3 dm_kA) := Yxw_sx rfl
theorem Yxi_istore {pc len : Nat} {aux : List Int} {i : Nat} {x : Int32} : Yxw S d ret code ((pc, .istore i, len, aux) :: k) ls (.int x :: st) σ Q ↔ Yxw S d ret code k (dm_put1 ls i (.int x)) st σ Q := Yxw_sx rfl
theorem Yxi_astore_1 {pc len : Nat} {aux : List Int} {x : Nat} : Yxw S d ret code ((pc, .astore_n 1, len, aux) :: k) ls (.ref x :: st) σ Q ↔ Yxw S d ret code k (dm_put1 ls 1 (.ref x)) st σ Q := Yxw_sx rfl
theorem Yxi_astore_2 {pc len : Nat} {aux : List Int} {x : Nat} : Yxw S d ret code ((pc, .astore_n 2, len, aux) :: k) ls (.ref x :: st) σ Q ↔ Yxw S d ret code k (dm_put1 ls 2 (.ref x)) st σ Q := Yxw_sx rfl
theorem Yxi_astore_3 {pc len : Nat} {aux : List Int} {x : Nat} : Yxw S d ret code ((pc, .astore_n 3, len, aux) :: k) ls (.ref x :: st) σ Q ↔ Yxw S d ret code k (dm_put1 ls 3 (.ref x)) st σ Q := Yxw_sx rfl
theorem Yxi_iinc {pc len : Nat} {aux : List Int} {i : Nat} {v : Int} : Yxw S d ret code ((pc, .iinc i v, len, aux) :: k) ls (st) σ Q ↔ Yxwm S d ret code k Q (match dm_get ls i with
    | some (.int x) => some (dm_put1 ls i (.int (x + Int32.ofInt v)), st, σ)
    | _ => none) := Yxw_sx rfl
theorem Yxi_dupI {pc len : Nat} {aux : List Int} {x : Int32} : Yxw S d ret code ((pc, .dup, len, aux) :: k) ls (.int x :: st) σ Q ↔ Yxw S d ret code k ls (.int x :: .int x :: st) σ Q := Yxw_sx rfl
theorem Yxi_dupR {pc len : Nat} {aux : List Int} {x : Nat} : Yxw S d ret code ((pc, .dup, len, aux) :: k) ls (.ref x :: st) σ Q ↔ Yxw S d ret code k ls (.ref x :: .ref x :: st) σ Q := Yxw_sx rfl
theorem Yxi_iaload {pc len : Nat} {aux : List Int} {v w : Value} : Yxw S d ret code ((pc, .iaload, len, aux) :: k) ls (v :: w :: st) σ Q ↔ Yxwm S d ret code k Q (dm_ald S ls (v :: w :: st) σ 0) := Yxw_sx rfl
theorem Yxi_laload {pc len : Nat} {aux : List Int} {v w : Value} : Yxw S d ret code ((pc, .laload, len, aux) :: k) ls (v :: w :: st) σ Q ↔ Yxwm S d ret code k Q (dm_ald S ls (v :: w :: st) σ 1) := Yxw_sx rfl
theorem Yxi_alen {pc len : Nat} {aux : List Int} {v : Value} : Yxw S d ret code ((pc, .arraylength, len, aux) :: k) ls (v :: st) σ Q ↔ Yxwm S d ret code k Q (dm_len S ls (v :: st) σ) := Yxw_sx rfl
theorem Yxwm_some : Yxwm S d ret code k Q (some (ls, st, σ)) ↔ Yxw S d ret code k ls st σ Q := Iff.rfl
theorem Yxwm_none : Yxwm S d ret code k Q none ↔ False := Iff.rfl
theorem Yxwm_ite {c : Prop} [Decidable c] {a : dm_Mv} : Yxwm S d ret code k Q (if c then some a else none) ↔ c ∧ Yxwm S d ret code k Q (some a) := by
  by_cases h : c <;> simp [h, Yxwm]
theorem Yle_xw {S : dm_Sc} {d : Nat} {ret : Option FieldType} {code k : List dm_Op} {a b : dm_Lv} {st : List Value} {σ : dm_St} {Q : Option Value → dm_St → Prop} (h : le a b) : Yxw S d ret code k a st σ Q ↔ Yxw S d ret code k b st σ Q := by
  unfold Yxw
  simp only [fun n N => le_exec (S := S) (call := lcall S d N) (ret := ret) (code := code) n k a b st σ h]
end YW
section YL
variable {S : dm_Sc} {d pc len : Nat} {ret : Option FieldType} {code k : List dm_Op} {st t : List Value} {σ : dm_St} {Q : Option Value → dm_St → Prop} {aux : List Int} {a0 a1 a2 a3 a4 a5 a6 a7 a8 a9 a10 a11 a12 a13 a14 a15 : Value} {x : Int32} {y : Int64} {z : Nat}
theorem Yxl_aload_0 : Yxw S d ret code ((pc, .aload_n 0, len, aux) :: k) (lvs (.ref z :: t)) st σ Q ↔ Yxw S d ret code k (lvs (.ref z :: t)) (.ref z :: st) σ Q := by
  rw [Yxi_aload_0, dm_ld, lvs_get _ 0 rfl rfl]; rfl
theorem Yxl_bload_0 : Yxw S d ret code ((pc, .aload_n 0, len, aux) :: k) (lvs (.retAddr z :: t)) st σ Q ↔ Yxw S d ret code k (lvs (.retAddr z :: t)) (.retAddr z :: st) σ Q := by
  rw [Yxi_aload_0, dm_ld, lvs_get _ 0 rfl rfl]; rfl
theorem Yxl_aload_1 : Yxw S d ret code ((pc, .aload_n 1, len, aux) :: k) (lvs (a0 :: .ref z :: t)) st σ Q ↔ Yxw S d ret code k (lvs (a0 :: .ref z :: t)) (.ref z :: st) σ Q := by
  rw [Yxi_aload_1, dm_ld, lvs_get _ 1 rfl rfl]; rfl
theorem Yxl_bload_1 : Yxw S d ret code ((pc, .aload_n 1, len, aux) :: k) (lvs (a0 :: .retAddr z :: t)) st σ Q ↔ Yxw S d ret code k (lvs (a0 :: .retAddr z :: t)) (.retAddr z :: st) σ Q := by
  rw [Yxi_aload_1, dm_ld, lvs_get _ 1 rfl rfl]; rfl
theorem Yxl_astore_1 : Yxw S d ret code ((pc, .astore_n 1, len, aux) :: k) (lvs (a0 :: a1 :: t)) (.ref z :: st) σ Q ↔ Yxw S d ret code k (lvs (kl a0 :: .ref z :: t)) st σ Q := by
  rw [Yxi_astore_1]
  exact Yle_xw (lvs_put1 _ (by simp only [List.length_cons]; omega) rfl)
theorem Yxl_aload_2 : Yxw S d ret code ((pc, .aload_n 2, len, aux) :: k) (lvs (a0 :: a1 :: .ref z :: t)) st σ Q ↔ Yxw S d ret code k (lvs (a0 :: a1 :: .ref z :: t)) (.ref z :: st) σ Q := by
  rw [Yxi_aload_2, dm_ld, lvs_get _ 2 rfl rfl]; rfl
theorem Yxl_bload_2 : Yxw S d ret code ((pc, .aload_n 2, len, aux) :: k) (lvs (a0 :: a1 :: .retAddr z :: t)) st σ Q ↔ Yxw S d ret code k (lvs (a0 :: a1 :: .retAddr z :: t)) (.retAddr z :: st) σ Q := by
  rw [Yxi_aload_2, dm_ld, lvs_get _ 2 rfl rfl]; rfl
theorem Yxl_astore_2 : Yxw S d ret code ((pc, .astore_n 2, len, aux) :: k) (lvs (a0 :: a1 :: a2 :: t)) (.ref z :: st) σ Q ↔ Yxw S d ret code k (lvs (a0 :: kl a1 :: .ref z :: t)) st σ Q := by
  rw [Yxi_astore_2]
  exact Yle_xw (lvs_put1 _ (by simp only [List.length_cons]; omega) rfl)
theorem Yxl_aload_3 : Yxw S d ret code ((pc, .aload_n 3, len, aux) :: k) (lvs (a0 :: a1 :: a2 :: .ref z :: t)) st σ Q ↔ Yxw S d ret code k (lvs (a0 :: a1 :: a2 :: .ref z :: t)) (.ref z :: st) σ Q := by
  rw [Yxi_aload_3, dm_ld, lvs_get _ 3 rfl rfl]; rfl
theorem Yxl_bload_3 : Yxw S d ret code ((pc, .aload_n 3, len, aux) :: k) (lvs (a0 :: a1 :: a2 :: .retAddr z :: t)) st σ Q ↔ Yxw S d ret code k (lvs (a0 :: a1 :: a2 :: .retAddr z :: t)) (.retAddr z :: st) σ Q := by
  rw [Yxi_aload_3, dm_ld, lvs_get _ 3 rfl rfl]; rfl
theorem Yxl_astore_3 : Yxw S d ret code ((pc, .astore_n 3, len, aux) :: k) (lvs (a0 :: a1 :: a2 :: a3 :: t)) (.ref z :: st) σ Q ↔ Yxw S d ret code k (lvs (a0 :: a1 :: kl a2 :: .ref z :: t)) st σ Q := by
  rw [Yxi_astore_3]
  exact Yle_xw (lvs_put1 _ (by simp only [List.length_cons]; omega) rfl)
theorem Yxl_iload_4 : Yxw S d ret code ((pc, .iload 4, len, aux) :: k) (lvs (a0 :: a1 :: a2 :: a3 :: .int x :: t)) st σ Q ↔ Yxw S d ret code k (lvs (a0 :: a1 :: a2 :: a3 :: .int x :: t)) (.int x :: st) σ Q := by
  rw [Yxi_iload, dm_ld, lvs_get _ 4 rfl rfl]; rfl
theorem Yxl_istore_4 : Yxw S d ret code ((pc, .istore 4, len, aux) :: k) (lvs (a0 :: a1 :: a2 :: a3 :: a4 :: t)) (.int x :: st) σ Q ↔ Yxw S d ret code k (lvs (a0 :: a1 :: a2 :: kl a3 :: .int x :: t)) st σ Q := by
  rw [Yxi_istore]
  exact Yle_xw (lvs_put1 _ (by simp only [List.length_cons]; omega) rfl)
theorem Yxl_iinc_4 {v : Int} : Yxw S d ret code ((pc, .iinc 4 v, len, aux) :: k) (lvs (a0 :: a1 :: a2 :: a3 :: .int x :: t)) st σ Q ↔ Yxw S d ret code k (lvs (a0 :: a1 :: a2 :: kl a3 :: .int (x + Int32.ofInt v) :: t)) st σ Q := by
  rw [Yxi_iinc, lvs_get _ 4 rfl rfl]
  exact Yle_xw (lvs_put1 _ (by simp only [List.length_cons]; omega) rfl)
theorem Yxl_iload_5 : Yxw S d ret code ((pc, .iload 5, len, aux) :: k) (lvs (a0 :: a1 :: a2 :: a3 :: a4 :: .int x :: t)) st σ Q ↔ Yxw S d ret code k (lvs (a0 :: a1 :: a2 :: a3 :: a4 :: .int x :: t)) (.int x :: st) σ Q := by
  rw [Yxi_iload, dm_ld, lvs_get _ 5 rfl rfl]; rfl
theorem Yxl_istore_5 : Yxw S d ret code ((pc, .istore 5, len, aux) :: k) (lvs (a0 :: a1 :: a2 :: a3 :: a4 :: a5 :: t)) (.int x :: st) σ Q ↔ Yxw S d ret code k (lvs (a0 :: a1 :: a2 :: a3 :: kl a4 :: .int x :: t)) st σ Q := by
  rw [Yxi_istore]
  exact Yle_xw (lvs_put1 _ (by simp only [List.length_cons]; omega) rfl)
theorem Yxl_iload_6 : Yxw S d ret code ((pc, .iload 6, len, aux) :: k) (lvs (a0 :: a1 :: a2 :: a3 :: a4 :: a5 :: .int x :: t)) st σ Q ↔ Yxw S d ret code k (lvs (a0 :: a1 :: a2 :: a3 :: a4 :: a5 :: .int x :: t)) (.int x :: st) σ Q := by
  rw [Yxi_iload, dm_ld, lvs_get _ 6 rfl rfl]; rfl
theorem Yxl_istore_6 : Yxw S d ret code ((pc, .istore 6, len, aux) :: k) (lvs (a0 :: a1 :: a2 :: a3 :: a4 :: a5 :: a6 :: t)) (.int x :: st) σ Q ↔ Yxw S d ret code k (lvs (a0 :: a1 :: a2 :: a3 :: a4 :: kl a5 :: .int x :: t)) st σ Q := by
  rw [Yxi_istore]
  exact Yle_xw (lvs_put1 _ (by simp only [List.length_cons]; omega) rfl)
end YL
