/-! THE PURE MACHINE: a function that runs the resolved bytecode over a pure store. Places (0, 1, ..) stand for addresses; outside things are .retAddr j. -/
abbrev dm_Sh : Type := Nat ⊕ (Nat × Nat)
abbrev dm_St : Type := List dm_Sh × (Nat × Nat) × (Nat → Nat → Int32) × (Nat → Nat → Int64) × (Nat → Nat → Value)
abbrev dm_Op : Type := Nat × Instr × Nat × List Int
abbrev dm_Lv : Type := List (Nat × Value)
abbrev dm_Rs : Type := Option (Option Value × dm_St)
/-- the script: its length, its ints -/
abbrev dm_Sc : Type := Nat × (Nat → Int32)
abbrev dm_sh (σ : dm_St) : List dm_Sh := σ.1
abbrev dm_I (σ : dm_St) : Nat → Nat → Int32 := σ.2.2.1
abbrev dm_L (σ : dm_St) : Nat → Nat → Int64 := σ.2.2.2.1
abbrev dm_R (σ : dm_St) : Nat → Nat → Value := σ.2.2.2.2
/-- f, but v at (p, i) -/
def dm_up {α : Type} (f : Nat → Nat → α) (p i : Nat) (v : α) : Nat → Nat → α := fun q j => if q = p ∧ j = i then v else f q j
/-- f, but the row p is g -/
def dm_row {α : Type} (f : Nat → Nat → α) (p : Nat) (g : Nat → α) : Nat → Nat → α := fun q => if q = p then g else f q
abbrev dm_setI (σ : dm_St) (f : Nat → Nat → Int32) : dm_St := (σ.1, σ.2.1, f, σ.2.2.2.1, σ.2.2.2.2)
abbrev dm_setL (σ : dm_St) (f : Nat → Nat → Int64) : dm_St := (σ.1, σ.2.1, σ.2.2.1, f, σ.2.2.2.2)
abbrev dm_setR (σ : dm_St) (f : Nat → Nat → Value) : dm_St := (σ.1, σ.2.1, σ.2.2.1, σ.2.2.2.1, f)
/-- the classes whose objects the store holds -/
abbrev dm_cl : List vw_C := [(RX0, TX0, 8), (RX1, TX1, 6), (RX2, TX2, 10), (RX3, TX3, 1), (RX4, TX4, 4), (RX5, TX5, 8), (RX6, TX6, 3), (RX7, TX7, 10), (RX8, TX8, 3), (RX9, TX9, 10), (RX11, TX11, 17), (RX12, TX12, 40)]
def dm_ty (ci : Nat) : Nat → FieldType := match ci with
  | 0 => tyX0 | 1 => tyX1 | 2 => tyX2 | 3 => tyX3 | 4 => tyX4 | 5 => tyX5 | 6 => tyX6 | 7 => tyX7 | 8 => tyX8 | 9 => tyX9 | 10 => tyX11 | _ => tyX12
def dm_nf (ci : Nat) : Nat := match ci with
  | 0 => 8 | 1 => 6 | 2 => 10 | 3 => 1 | 4 => 4 | 5 => 8 | 6 => 3 | 7 => 10 | 8 => 3 | 9 => 10 | 10 => 17 | _ => 40
/-- 0: ints, 1: a long, 2: a reference -/
def dm_fk (ty : FieldType) : Nat := match ty with
  | .long => 1
  | .object _ => 2
  | .array _ => 2
  | _ => 0
/-- the element types of arrays by their numbers -/
def dm_at (t : Nat) : FieldType := match t with
  | 0 => .int | 1 => .long | 2 => .char | 3 => .boolean | 4 => .object RX6 | 5 => .object RX7 | _ => .array .int
/-- a place in range -/
def dm_in (i : Int32) (n : Nat) : Bool := !(decide (i < 0) || decide (n ≤ i.toNatClampNeg))
def dm_get (ls : dm_Lv) (i : Nat) : Option Value := (ls.find? (fun q => q.1 == i)).map (fun q => q.2)
def dm_put1 (ls : dm_Lv) (i : Nat) (v : Value) : dm_Lv := (i, v) :: ls.filter (fun q => !(q.1 == i) && !(q.1 + 1 == i && q.2.category == 2))
def dm_put2 (ls : dm_Lv) (i : Nat) (v : Value) : dm_Lv := (i, v) :: ls.filter (fun q => !(q.1 == i) && (!(q.1 == i + 1) && !(q.1 + 1 == i && q.2.category == 2)))
/-- what the fields of the outside objects (constants of Word) hold: code, reserved -/
def dm_codes : List Int64 := [605677, 658548307, 15181413, 67173, 676791764, 595572, 99725, 3646931, 302, 13097139, 187237828, 16258515, 21015731, 37011, 116594853, 12635795, 5969497, 4773, 763496, 3548578, 220503316, 4793803, 14276022451, 474606, 442053, 17171758, 441803, 626473138, 631915, 14836, 1476, 498, 2262675, 6700530, 370116, 20583955, 409252]
def dm_res (j : Nat) : Int32 := if j < 32 then 1 else 0
def dm_names : List String := ["ROOM", "STAIRS", "NOISE", "BASE", "TENANT", "REST", "CALM", "COINS", "IN", "LOVES", "ERRAND", "OPENS", "TAKES", "ADDS", "COFFEE", "LASTS", "EVERY", "DUE", "WISH", "CLIMB", "FRIGHT", "DRINK", "MINUTES", "NOON", "MOVE", "PLAIN", "MONK", "RUNNER", "SICK", "NOT", "AND", "OR", "BEATS", "FLOOR", "KIND", "STEPS", "LOUD"]
/-- the script and the outside array ALL, the text of the signs -/
abbrev dm_xALL : Nat := 100
abbrev dm_xS : Nat := 200
abbrev dm_xT : Nat := 300
def dm_bytes : List Int32 := [40, 41, 60, 61, 43, 45, 42, 59]
/-- what ".. ".indexOf answers for the text of the signs -/
def dm_idx (c : Int32) : Int32 := if c = 40 then 0 else if c = 41 then 1 else if c = 60 then 2 else if c = 61 then 3 else if c = 43 then 4 else if c = 45 then 5 else if c = 42 then 6 else if c = 59 then 7 else -1
/-- a value that a field or a return of this type takes as it is -/
def dm_fits (ty : FieldType) (v : Int32) : Bool := match ty with
  | .int => true
  | .boolean => v == 0 || v == 1
  | .char => decide (0 ≤ v) && decide (v < 65536)
  | .byte => v == 0
  | _ => false
def dm_isRef (v : Value) : Bool := match v with
  | .null => true
  | .ref _ => true
  | .retAddr _ => true
  | _ => false
def dm_cmp (c : ClassFile.Cond) (x y : Int32) : Bool := match c with
  | .eq => decide (x = y)
  | .ne => decide (¬ x = y)
  | .lt => decide (x < y)
  | .ge => decide (y ≤ x)
  | .gt => decide (y < x)
  | .le => decide (x ≤ y)
abbrev dm_Mv : Type := dm_Lv × List Value × dm_St
def dm_ld (ls : dm_Lv) (st : List Value) (σ : dm_St) (i : Nat) (ok : Value → Bool) : Option dm_Mv := match dm_get ls i with
  | some v => if ok v then some (ls, v :: st, σ) else none
  | none => none
def dm_kI (v : Value) : Bool := match v with
  | .int _ => true
  | _ => false
def dm_kL (v : Value) : Bool := match v with
  | .long _ => true
  | _ => false
def dm_kA (v : Value) : Bool := match v with
  | .ref _ => true
  | .retAddr _ => true
  | _ => false
def dm_st1 (ls : dm_Lv) (st : List Value) (σ : dm_St) (i : Nat) (ok : Value → Bool) : Option dm_Mv := match st with
  | v :: st => if ok v then some (dm_put1 ls i v, st, σ) else none
  | _ => none
def dm_st2 (ls : dm_Lv) (st : List Value) (σ : dm_St) (i : Nat) : Option dm_Mv := match st with
  | .long v :: st => some (dm_put2 ls i (.long v), st, σ)
  | _ => none
def dm_b (ls : dm_Lv) (st : List Value) (σ : dm_St) (f : Int32 → Int32 → Int32) : Option dm_Mv := match st with
  | .int y :: .int x :: st => some (ls, .int (f x y) :: st, σ)
  | _ => none
def dm_b0 (ls : dm_Lv) (st : List Value) (σ : dm_St) (f : Int32 → Int32 → Int32) : Option dm_Mv := match st with
  | .int y :: .int x :: st => if y = 0 then none else some (ls, .int (f x y) :: st, σ)
  | _ => none
def dm_bl (ls : dm_Lv) (st : List Value) (σ : dm_St) (f : Int64 → Int64 → Int64) : Option dm_Mv := match st with
  | .long y :: .long x :: st => some (ls, .long (f x y) :: st, σ)
  | _ => none
def dm_bl0 (ls : dm_Lv) (st : List Value) (σ : dm_St) (f : Int64 → Int64 → Int64) : Option dm_Mv := match st with
  | .long y :: .long x :: st => if y = 0 then none else some (ls, .long (f x y) :: st, σ)
  | _ => none
def dm_bs (ls : dm_Lv) (st : List Value) (σ : dm_St) (f : Int64 → Int32 → Int64) : Option dm_Mv := match st with
  | .int y :: .long x :: st => some (ls, .long (f x y) :: st, σ)
  | _ => none
/-- the value of field k of the object (class ci) at place q -/
def dm_fv (σ : dm_St) (q ci k : Nat) : Value := match dm_fk (dm_ty ci k) with
  | 0 => .int (dm_I σ q k)
  | 1 => .long (dm_L σ q k)
  | _ => dm_R σ q k
def dm_gf (ls : dm_Lv) (st : List Value) (σ : dm_St) (aux : List Int) : Option dm_Mv := match st, aux with
  | .ref q :: st, [ci, k, _, _] => if (dm_sh σ)[q]? = some (.inl ci.toNat) then some (ls, dm_fv σ q ci.toNat k.toNat :: st, σ) else none
  | .retAddr j :: st, [x, _, _] => if x = -1 ∧ j < 37 then some (ls, .long (dm_codes.getD j 0) :: st, σ) else if x = -2 ∧ j < 37 then some (ls, .int (dm_res j) :: st, σ) else if x = -3 ∧ j = 300 then some (ls, .retAddr 301 :: st, σ) else if x = -4 ∧ j = 300 then some (ls, .int 0 :: st, σ) else none
  | _, _ => none
def dm_pf (ls : dm_Lv) (st : List Value) (σ : dm_St) (aux : List Int) : Option dm_Mv := match st, aux with
  | v :: .ref q :: st, [ci, k, _, _] => if (dm_sh σ)[q]? = some (.inl ci.toNat) then
      match dm_fk (dm_ty ci.toNat k.toNat), v with
      | 0, .int x => if dm_fits (dm_ty ci.toNat k.toNat) x then some (ls, st, dm_setI σ (dm_up (dm_I σ) q k.toNat x)) else none
      | 1, .long x => some (ls, st, dm_setL σ (dm_up (dm_L σ) q k.toNat x))
      | 2, x => if dm_isRef x then some (ls, st, dm_setR σ (dm_up (dm_R σ) q k.toNat x)) else none
      | _, _ => none
    else none
  | _, _ => none
/-- an int array's place (of one of the element types ts) -/
def dm_ald (S : dm_Sc) (ls : dm_Lv) (st : List Value) (σ : dm_St) (t : Nat) : Option dm_Mv := match st with
  | .int i :: .ref q :: st => match (dm_sh σ)[q]? with
    | some (.inr (t', n)) => if t' = t ∧ dm_in i n = true then some (ls, (match t with
        | 1 => .long (dm_L σ q i.toNatClampNeg)
        | 0 => .int (dm_I σ q i.toNatClampNeg)
        | 2 => .int (dm_I σ q i.toNatClampNeg)
        | 3 => .int (dm_I σ q i.toNatClampNeg)
        | _ => dm_R σ q i.toNatClampNeg) :: st, σ) else none
    | _ => none
  | .int i :: .retAddr j :: st => if j = dm_xS ∧ t = 0 ∧ dm_in i S.1 = true ∧ S.1 < 4294967296 then some (ls, .int (S.2 i.toNatClampNeg) :: st, σ) else if j = 301 ∧ t = 3 ∧ dm_in i 8 = true then some (ls, .int (dm_bytes.getD i.toNatClampNeg 0) :: st, σ) else none
  | _ => none
def dm_aald (ls : dm_Lv) (st : List Value) (σ : dm_St) : Option dm_Mv := match st with
  | .int i :: .ref q :: st => match (dm_sh σ)[q]? with
    | some (.inr (t, n)) => if 4 ≤ t ∧ dm_in i n = true ∧ dm_isRef (dm_R σ q i.toNatClampNeg) = true then some (ls, dm_R σ q i.toNatClampNeg :: st, σ) else none
    | _ => none
  | .int i :: .retAddr j :: st => if j = dm_xALL ∧ dm_in i 37 = true then some (ls, .retAddr i.toNatClampNeg :: st, σ) else none
  | _ => none
def dm_ast (ls : dm_Lv) (st : List Value) (σ : dm_St) (t : Nat) : Option dm_Mv := match st with
  | .int x :: .int i :: .ref q :: st => match (dm_sh σ)[q]? with
    | some (.inr (t', n)) => if t' = t ∧ dm_fits (dm_at t) x = true ∧ dm_in i n = true then some (ls, st, dm_setI σ (dm_up (dm_I σ) q i.toNatClampNeg x)) else none
    | _ => none
  | _ => none
def dm_last (ls : dm_Lv) (st : List Value) (σ : dm_St) : Option dm_Mv := match st with
  | .long x :: .int i :: .ref q :: st => match (dm_sh σ)[q]? with
    | some (.inr (t', n)) => if t' = 1 ∧ dm_in i n = true then some (ls, st, dm_setL σ (dm_up (dm_L σ) q i.toNatClampNeg x)) else none
    | _ => none
  | _ => none
/-- an object of class (of the element type t's) into an array of references -/
def dm_aast (ls : dm_Lv) (st : List Value) (σ : dm_St) : Option dm_Mv := match st with
  | .ref x :: .int i :: .ref q :: st => match (dm_sh σ)[q]?, (dm_sh σ)[x]? with
    | some (.inr (t, n)), some (.inl ci) => if ((t = 4 ∧ ci = 6) ∨ (t = 5 ∧ ci = 7)) ∧ dm_in i n = true then some (ls, st, dm_setR σ (dm_up (dm_R σ) q i.toNatClampNeg (.ref x))) else none
    | _, _ => none
  | _ => none
def dm_len (S : dm_Sc) (ls : dm_Lv) (st : List Value) (σ : dm_St) : Option dm_Mv := match st with
  | .ref q :: st => match (dm_sh σ)[q]? with
    | some (.inr (_, n)) => some (ls, .int (Int32.ofNat n) :: st, σ)
    | _ => none
  | .retAddr j :: st => if j = dm_xS ∧ S.1 < 4294967296 then some (ls, .int (Int32.ofNat S.1) :: st, σ) else if j = dm_xALL then some (ls, .int 37 :: st, σ) else if j = 301 then some (ls, .int 8 :: st, σ) else none
  | _ => none
/-- a new cell behind the store's: its ints 0, its references null -/
def dm_push (σ : dm_St) (x : dm_Sh) : dm_St := (σ.1 ++ [x], σ.2.1, dm_row σ.2.2.1 σ.1.length (fun _ => 0), dm_row σ.2.2.2.1 σ.1.length (fun _ => 0), dm_row σ.2.2.2.2 σ.1.length (fun _ => .null))
/-- n rows of k ints behind it, and the outer one first -/
def dm_rows (k : Nat) : Nat → dm_St → dm_St
  | 0, σ => σ
  | n + 1, σ => dm_push (dm_rows k n σ) (.inr (0, k))
def dm_mna (n k : Nat) (σ : dm_St) : dm_St :=
  let τ := dm_rows k n (dm_push σ (.inr (6, n)))
  dm_setR τ (dm_row τ.2.2.2.2 σ.1.length (fun j => if j < n then .ref (σ.1.length + 1 + j) else .null))
def dm_new (ls : dm_Lv) (st : List Value) (σ : dm_St) (x : dm_Sh) : Option dm_Mv := if σ.2.1.1 = 0 then some (ls, .ref σ.1.length :: st, dm_push σ x) else none
def dm_newa (ls : dm_Lv) (st : List Value) (σ : dm_St) (t : Nat) : Option dm_Mv := match st with
  | .int n :: st => if 0 ≤ n ∧ n ≤ 4000 ∧ σ.2.1.1 = 0 then dm_new ls st σ (.inr (t, n.toNatClampNeg)) else none
  | _ => none
/-- what a call leaves: how many words wait below it -/
def dm_wait (st : List Value) : Bool := Nat.ble ((st.map fun v => v.category).sum) 8
/-- System.arraycopy between int arrays -/
def dm_acopy (ls : dm_Lv) (st : List Value) (σ : dm_St) : Option dm_Mv := match st with
  | .int n :: .int dp :: .ref b :: .int sp :: .ref a :: st => match (dm_sh σ)[a]?, (dm_sh σ)[b]? with
    | some (.inr (t, na)), some (.inr (t', nb)) => if dm_wait st = true ∧ t = 0 ∧ t' = 0 ∧ 0 ≤ n ∧ 0 ≤ sp ∧ 0 ≤ dp ∧ sp.toNatClampNeg + n.toNatClampNeg ≤ na ∧ dp.toNatClampNeg + n.toNatClampNeg ≤ nb
        then some (ls, st, dm_setI σ (dm_row (dm_I σ) b (va_cpy (dm_I σ a) (dm_I σ b) sp.toNatClampNeg dp.toNatClampNeg n.toNatClampNeg))) else none
    | _, _ => none
  | _ => none
/-- one instruction that goes on to the next -/
def dm_sx (S : dm_Sc) (i : Instr) (aux : List Int) (ls : dm_Lv) (st : List Value) (σ : dm_St) : Option dm_Mv := match i with
  | .aconst_null => some (ls, .null :: st, σ)
  | .iconst v => some (ls, .int (Int32.ofInt v) :: st, σ)
  | .bipush v => some (ls, .int (Int8.ofInt v).toInt32 :: st, σ)
  | .sipush v => some (ls, .int (Int16.ofInt v).toInt32 :: st, σ)
  | .lconst v => some (ls, .long (Int64.ofNat (v : Nat)) :: st, σ)
  | .ldc _ => match aux with
    | [v, _] => some (ls, .int (Int32.ofInt v) :: st, σ)
    | [_] => some (ls, .retAddr dm_xT :: st, σ)
    | _ => none
  | .ldc_w _ => match aux with
    | [v, _] => some (ls, .int (Int32.ofInt v) :: st, σ)
    | _ => none
  | .ldc2_w _ => match aux with
    | v :: _ => some (ls, .long (Int64.ofInt v) :: st, σ)
    | _ => none
  | .iload i => dm_ld ls st σ i dm_kI
  | .iload_n i => dm_ld ls st σ i dm_kI
  | .lload i => dm_ld ls st σ i dm_kL
  | .lload_n i => dm_ld ls st σ i dm_kL
  | .aload i => dm_ld ls st σ i dm_kA
  | .aload_n i => dm_ld ls st σ i dm_kA
  | .istore i => dm_st1 ls st σ i dm_kI
  | .istore_n i => dm_st1 ls st σ i dm_kI
  | .astore i => dm_st1 ls st σ i dm_kA
  | .astore_n i => dm_st1 ls st σ i dm_kA
  | .lstore i => dm_st2 ls st σ i
  | .lstore_n i => dm_st2 ls st σ i
  | .iinc i v => match dm_get ls i with
    | some (.int x) => some (dm_put1 ls i (.int (x + Int32.ofInt v)), st, σ)
    | _ => none
  | .iadd => dm_b ls st σ (fun x y => x + y)
  | .isub => dm_b ls st σ (fun x y => x - y)
  | .imul => dm_b ls st σ (fun x y => x * y)
  | .iand => dm_b ls st σ (fun x y => x &&& y)
  | .ior => dm_b ls st σ (fun x y => x ||| y)
  | .ixor => dm_b ls st σ (fun x y => x ^^^ y)
  | .ishl => dm_b ls st σ (fun x y => x <<< (y &&& 31))
  | .ishr => dm_b ls st σ (fun x y => x >>> (y &&& 31))
  | .iushr => dm_b ls st σ (fun x y => (x.toUInt32 >>> (y.toUInt32 &&& Int32.toUInt32 31)).toInt32)
  | .idiv => dm_b0 ls st σ (fun x y => x / y)
  | .irem => dm_b0 ls st σ (fun x y => x - x / y * y)
  | .ladd => dm_bl ls st σ (fun x y => x + y)
  | .lsub => dm_bl ls st σ (fun x y => x - y)
  | .lmul => dm_bl ls st σ (fun x y => x * y)
  | .land => dm_bl ls st σ (fun x y => x &&& y)
  | .lor => dm_bl ls st σ (fun x y => x ||| y)
  | .ldiv => dm_bl0 ls st σ (fun x y => x / y)
  | .lrem => dm_bl0 ls st σ (fun x y => x - x / y * y)
  | .lshl => dm_bs ls st σ (fun x y => x <<< (y.toInt64 &&& 63))
  | .lshr => dm_bs ls st σ (fun x y => x >>> (y.toInt64 &&& 63))
  | .lcmp => match st with
    | .long y :: .long x :: st => some (ls, .int (lg_cmp x y) :: st, σ)
    | _ => none
  | .i2l => match st with
    | .int x :: st => some (ls, .long x.toInt64 :: st, σ)
    | _ => none
  | .l2i => match st with
    | .long x :: st => some (ls, .int x.toInt32 :: st, σ)
    | _ => none
  | .i2b => match st with
    | .int x :: st => some (ls, .int x.toInt8.toInt32 :: st, σ)
    | _ => none
  | .i2c => match st with
    | .int x :: st => some (ls, .int (x.toUInt32 % 65536).toInt32 :: st, σ)
    | _ => none
  | .dup => match st with
    | v :: st => if v.category = 1 then some (ls, v :: v :: st, σ) else none
    | _ => none
  | .dup2 => match st with
    | v :: w :: st => if v.category = 1 ∧ w.category = 1 then some (ls, v :: w :: v :: w :: st, σ) else none
    | _ => none
  | .pop => match st with
    | v :: st => if v.category = 1 then some (ls, st, σ) else none
    | _ => none
  | .getfield _ => dm_gf ls st σ aux
  | .putfield _ => dm_pf ls st σ aux
  | .getstatic _ => match aux with
    | j :: _ => if j = 101 then some (ls, .int 1 :: st, σ) else some (ls, .retAddr j.toNat :: st, σ)
    | _ => none
  | .iaload => dm_ald S ls st σ 0
  | .laload => dm_ald S ls st σ 1
  | .caload => dm_ald S ls st σ 2
  | .baload => dm_ald S ls st σ 3
  | .aaload => dm_aald ls st σ
  | .iastore => dm_ast ls st σ 0
  | .castore => dm_ast ls st σ 2
  | .bastore => dm_ast ls st σ 3
  | .lastore => dm_last ls st σ
  | .aastore => dm_aast ls st σ
  | .arraylength => dm_len S ls st σ
  | .new _ => match aux with
    | ci :: _ => dm_new ls st σ (.inl ci.toNat)
    | _ => none
  | .newarray .int => dm_newa ls st σ 0
  | .newarray .long => dm_newa ls st σ 1
  | .newarray .char => dm_newa ls st σ 2
  | .newarray .boolean => dm_newa ls st σ 3
  | .anewarray _ => match aux with
    | t :: _ => dm_newa ls st σ t.toNat
    | _ => none
  | .multianewarray _ _ => match st with
    | .int k :: .int n :: st => if 0 ≤ k ∧ k ≤ 4000 ∧ 0 < n ∧ n ≤ 4000 ∧ σ.2.1.1 = 0 then some (ls, .ref σ.1.length :: st, dm_mna n.toNatClampNeg k.toNatClampNeg σ) else none
    | _ => none
  | _ => none
def dm_jump (code : List dm_Op) (t : Int) : List dm_Op := code.dropWhile (fun o => !((o.1 : Int) == t))
def dm_rcv (σ : dm_St) (ci : Nat) (as : List Value) : Bool := match as with
  | .ref q :: _ => decide ((dm_sh σ)[q]? = some (.inl ci))
  | .retAddr j :: _ => decide (j = 300 ∧ ci = 99)
  | _ => false
/-- a call: aux is kind (0 virtual, 1 static, 2 special; 3 Object's own; 4 arraycopy; 5 indexOf), the method's number, how many it takes, the receiver's class -/
def dm_inv (call : Nat → List Value → dm_St → dm_Rs) (aux : List Int) (ls : dm_Lv) (st : List Value) (σ : dm_St) : Option dm_Mv := match aux with
  | kd :: mi :: na :: ci :: _ =>
    let as := (st.take na.toNat).reverse
    let rest := st.drop na.toNat
    if na.toNat ≤ st.length ∧ dm_wait rest = true ∧ (kd = 1 ∨ dm_rcv σ ci.toNat as = true) then
      match call mi.toNat as σ with
      | some (r, σ') => some (ls, r.toList ++ rest, σ')
      | none => none
    else none
  | [3, _] => match st with
    | .ref _ :: st => if dm_wait st then some (ls, st, σ) else none
    | _ => none
  | [4, _] => dm_acopy ls st σ
  | [6, _] => match st with
    | .int y :: .int x :: st => if dm_wait st then some (ls, .int (if x < y then y else x) :: st, σ) else none
    | _ => none
  | [7, _] => match st with
    | .int y :: .int x :: st => if dm_wait st then some (ls, .int (if y < x then y else x) :: st, σ) else none
    | _ => none
  | _ => none
def dm_exec (S : dm_Sc) (call : Nat → List Value → dm_St → dm_Rs) (ret : Option FieldType) (code : List dm_Op) : Nat → List dm_Op → dm_Lv → List Value → dm_St → dm_Rs
  | 0, _, _, _, _ => none
  | _ + 1, [], _, _, _ => none
  | n + 1, (pc, i, _, aux) :: k, ls, st, σ => match i with
    | .return_ => match ret, st with
      | none, [] => some (none, σ)
      | _, _ => none
    | .ireturn => match ret, st with
      | some ty, [.int v] => if dm_fits ty v then some (some (.int v), σ) else none
      | _, _ => none
    | .lreturn => match ret, st with
      | some .long, [.long v] => some (some (.long v), σ)
      | _, _ => none
    | .areturn => match ret, st with
      | some (.object _), [v] => if dm_isRef v then some (some v, σ) else none
      | _, _ => none
    | .goto off => dm_exec S call ret code n (dm_jump code (pc + off)) ls st σ
    | .if_icmp cnd off => match st with
      | .int y :: .int x :: st => dm_exec S call ret code n (if dm_cmp cnd x y then dm_jump code (pc + off) else k) ls st σ
      | _ => none
    | .ifCond cnd off => match st with
      | .int x :: st => dm_exec S call ret code n (if dm_cmp cnd x 0 then dm_jump code (pc + off) else k) ls st σ
      | _ => none
    | .ifnull off => match st with
      | .null :: st => dm_exec S call ret code n (dm_jump code (pc + off)) ls st σ
      | .ref _ :: st => dm_exec S call ret code n k ls st σ
      | .retAddr _ :: st => dm_exec S call ret code n k ls st σ
      | _ => none
    | .ifnonnull off => match st with
      | .null :: st => dm_exec S call ret code n k ls st σ
      | .ref _ :: st => dm_exec S call ret code n (dm_jump code (pc + off)) ls st σ
      | .retAddr _ :: st => dm_exec S call ret code n (dm_jump code (pc + off)) ls st σ
      | _ => none
    | .if_acmp .ne off => match st with
      | .retAddr y :: .null :: st => if y < 37 then dm_exec S call ret code n (dm_jump code (pc + off)) ls st σ else none
      | .retAddr y :: .retAddr x :: st => if y < 37 ∧ x < 37 then dm_exec S call ret code n (if x = y then k else dm_jump code (pc + off)) ls st σ else none
      | _ => none
    | .tableswitch dflt lo hi offs => match st with
      | .int x :: st => if x.toInt < lo ∨ hi < x.toInt then dm_exec S call ret code n (dm_jump code (pc + dflt)) ls st σ
        else match offs[(x.toInt - lo).toNat]? with
          | some off => dm_exec S call ret code n (dm_jump code (pc + off)) ls st σ
          | none => none
      | _ => none
    | .invokevirtual _ => match dm_inv call aux ls st σ with
      | some (ls, st, σ) => dm_exec S call ret code n k ls st σ
      | none => none
    | .invokestatic _ => match dm_inv call aux ls st σ with
      | some (ls, st, σ) => dm_exec S call ret code n k ls st σ
      | none => none
    | .invokespecial _ => match dm_inv call aux ls st σ with
      | some (ls, st, σ) => dm_exec S call ret code n k ls st σ
      | none => none
    | _ => match dm_sx S i aux ls st σ with
      | some (ls, st, σ) => dm_exec S call ret code n k ls st σ
      | none => none
/-- a method: its name, bytes, locals, return type, the class whose pool it reads, its resolved code -/
abbrev dm_Row : Type := MethodName × ByteArray × Nat × Option FieldType × String × List dm_Op
def dm_run (S : dm_Sc) (tab : Nat → Option dm_Row) : Nat → Nat → Nat → List Value → dm_St → dm_Rs
  | 0, _, _, _, _ => none
  | d + 1, n, mi, as, σ => match tab mi with
    | some row => if Nat.ble ((as.map fun v => v.category).sum) row.2.2.1 then dm_exec S (dm_run S tab d n) row.2.2.2.1 row.2.2.2.2.2 n row.2.2.2.2.2 (lv_args 0 as) [] σ else none
    | none => none
