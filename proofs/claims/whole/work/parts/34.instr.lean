/-! Rows for the simplifier: one an instruction. -/
section XI
variable {S : dm_Sc} {d pc len : Nat} {ret : Option FieldType} {code k : List dm_Op} {ls : dm_Lv} {st : List Value} {σ : dm_St} {Q : Option Value → dm_St → Prop} {aux : List Int}
theorem xi_iadd {x y : Int32} : xw S d ret code ((pc, .iadd, len, aux) :: k) ls (.int y :: .int x :: st) σ Q ↔ xw S d ret code k ls (.int (x + y) :: st) σ Q := xw_sx rfl
theorem xi_isub {x y : Int32} : xw S d ret code ((pc, .isub, len, aux) :: k) ls (.int y :: .int x :: st) σ Q ↔ xw S d ret code k ls (.int (x - y) :: st) σ Q := xw_sx rfl
theorem xi_imul {x y : Int32} : xw S d ret code ((pc, .imul, len, aux) :: k) ls (.int y :: .int x :: st) σ Q ↔ xw S d ret code k ls (.int (x * y) :: st) σ Q := xw_sx rfl
theorem xi_iand {x y : Int32} : xw S d ret code ((pc, .iand, len, aux) :: k) ls (.int y :: .int x :: st) σ Q ↔ xw S d ret code k ls (.int (x &&& y) :: st) σ Q := xw_sx rfl
theorem xi_ior {x y : Int32} : xw S d ret code ((pc, .ior, len, aux) :: k) ls (.int y :: .int x :: st) σ Q ↔ xw S d ret code k ls (.int (x ||| y) :: st) σ Q := xw_sx rfl
theorem xi_ixor {x y : Int32} : xw S d ret code ((pc, .ixor, len, aux) :: k) ls (.int y :: .int x :: st) σ Q ↔ xw S d ret code k ls (.int (x ^^^ y) :: st) σ Q := xw_sx rfl
theorem xi_ishl {x y : Int32} : xw S d ret code ((pc, .ishl, len, aux) :: k) ls (.int y :: .int x :: st) σ Q ↔ xw S d ret code k ls (.int (x <<< (y &&& 31)) :: st) σ Q := xw_sx rfl
theorem xi_ishr {x y : Int32} : xw S d ret code ((pc, .ishr, len, aux) :: k) ls (.int y :: .int x :: st) σ Q ↔ xw S d ret code k ls (.int (x >>> (y &&& 31)) :: st) σ Q := xw_sx rfl
theorem xi_iushr {x y : Int32} : xw S d ret code ((pc, .iushr, len, aux) :: k) ls (.int y :: .int x :: st) σ Q ↔ xw S d ret code k ls (.int ((x.toUInt32 >>> (y.toUInt32 &&& Int32.toUInt32 31)).toInt32) :: st) σ Q := xw_sx rfl
theorem xi_idiv {x y : Int32} : xw S d ret code ((pc, .idiv, len, aux) :: k) ls (.int y :: .int x :: st) σ Q ↔ ¬ y = 0 ∧ xw S d ret code k ls (.int (x / y) :: st) σ Q := by
  rw [xw_sx rfl]
  by_cases h : y = 0
  · simp [xwm, dm_sx, dm_b0, h]
  · simp [xwm, dm_sx, dm_b0, h]
theorem xi_irem {x y : Int32} : xw S d ret code ((pc, .irem, len, aux) :: k) ls (.int y :: .int x :: st) σ Q ↔ ¬ y = 0 ∧ xw S d ret code k ls (.int (x - x / y * y) :: st) σ Q := by
  rw [xw_sx rfl]
  by_cases h : y = 0
  · simp [xwm, dm_sx, dm_b0, h]
  · simp [xwm, dm_sx, dm_b0, h]
theorem xi_ladd {x y : Int64} : xw S d ret code ((pc, .ladd, len, aux) :: k) ls (.long y :: .long x :: st) σ Q ↔ xw S d ret code k ls (.long (x + y) :: st) σ Q := xw_sx rfl
theorem xi_lsub {x y : Int64} : xw S d ret code ((pc, .lsub, len, aux) :: k) ls (.long y :: .long x :: st) σ Q ↔ xw S d ret code k ls (.long (x - y) :: st) σ Q := xw_sx rfl
theorem xi_lmul {x y : Int64} : xw S d ret code ((pc, .lmul, len, aux) :: k) ls (.long y :: .long x :: st) σ Q ↔ xw S d ret code k ls (.long (x * y) :: st) σ Q := xw_sx rfl
theorem xi_land {x y : Int64} : xw S d ret code ((pc, .land, len, aux) :: k) ls (.long y :: .long x :: st) σ Q ↔ xw S d ret code k ls (.long (x &&& y) :: st) σ Q := xw_sx rfl
theorem xi_lor {x y : Int64} : xw S d ret code ((pc, .lor, len, aux) :: k) ls (.long y :: .long x :: st) σ Q ↔ xw S d ret code k ls (.long (x ||| y) :: st) σ Q := xw_sx rfl
theorem xi_ldiv {x y : Int64} : xw S d ret code ((pc, .ldiv, len, aux) :: k) ls (.long y :: .long x :: st) σ Q ↔ ¬ y = 0 ∧ xw S d ret code k ls (.long (x / y) :: st) σ Q := by
  rw [xw_sx rfl]
  by_cases h : y = 0
  · simp [xwm, dm_sx, dm_bl0, h]
  · simp [xwm, dm_sx, dm_bl0, h]
theorem xi_lrem {x y : Int64} : xw S d ret code ((pc, .lrem, len, aux) :: k) ls (.long y :: .long x :: st) σ Q ↔ ¬ y = 0 ∧ xw S d ret code k ls (.long (x - x / y * y) :: st) σ Q := by
  rw [xw_sx rfl]
  by_cases h : y = 0
  · simp [xwm, dm_sx, dm_bl0, h]
  · simp [xwm, dm_sx, dm_bl0, h]
theorem xi_lshl {x : Int64} {y : Int32} : xw S d ret code ((pc, .lshl, len, aux) :: k) ls (.int y :: .long x :: st) σ Q ↔ xw S d ret code k ls (.long (x <<< (y.toInt64 &&& 63)) :: st) σ Q := xw_sx rfl
theorem xi_lshr {x : Int64} {y : Int32} : xw S d ret code ((pc, .lshr, len, aux) :: k) ls (.int y :: .long x :: st) σ Q ↔ xw S d ret code k ls (.long (x >>> (y.toInt64 &&& 63)) :: st) σ Q := xw_sx rfl
theorem xi_lcmp {x y : Int64} : xw S d ret code ((pc, .lcmp, len, aux) :: k) ls (.long y :: .long x :: st) σ Q ↔ xw S d ret code k ls (.int (lg_cmp x y) :: st) σ Q := xw_sx rfl
theorem xi_i2l {x : Int32} : xw S d ret code ((pc, .i2l, len, aux) :: k) ls (.int x :: st) σ Q ↔ xw S d ret code k ls (.long x.toInt64 :: st) σ Q := xw_sx rfl
theorem xi_l2i {x : Int64} : xw S d ret code ((pc, .l2i, len, aux) :: k) ls (.long x :: st) σ Q ↔ xw S d ret code k ls (.int x.toInt32 :: st) σ Q := xw_sx rfl
theorem xi_i2b {x : Int32} : xw S d ret code ((pc, .i2b, len, aux) :: k) ls (.int x :: st) σ Q ↔ xw S d ret code k ls (.int x.toInt8.toInt32 :: st) σ Q := xw_sx rfl
theorem xi_i2c {x : Int32} : xw S d ret code ((pc, .i2c, len, aux) :: k) ls (.int x :: st) σ Q ↔ xw S d ret code k ls (.int (x.toUInt32 % 65536).toInt32 :: st) σ Q := xw_sx rfl
theorem xi_null : xw S d ret code ((pc, .aconst_null, len, aux) :: k) ls (st) σ Q ↔ xw S d ret code k ls (.null :: st) σ Q := xw_sx rfl
theorem xi_iconst {v : Int} : xw S d ret code ((pc, .iconst v, len, aux) :: k) ls (st) σ Q ↔ xw S d ret code k ls (.int (Int32.ofInt v) :: st) σ Q := xw_sx rfl
theorem xi_bipush {v : Int} : xw S d ret code ((pc, .bipush v, len, aux) :: k) ls (st) σ Q ↔ xw S d ret code k ls (.int (Int8.ofInt v).toInt32 :: st) σ Q := xw_sx rfl
theorem xi_sipush {v : Int} : xw S d ret code ((pc, .sipush v, len, aux) :: k) ls (st) σ Q ↔ xw S d ret code k ls (.int (Int16.ofInt v).toInt32 :: st) σ Q := xw_sx rfl
theorem xi_lconst {v : Fin 2} : xw S d ret code ((pc, .lconst v, len, aux) :: k) ls (st) σ Q ↔ xw S d ret code k ls (.long (Int64.ofNat (v : Nat)) :: st) σ Q := xw_sx rfl
theorem xi_ldc {ix : Nat} {v w : Int} : xw S d ret code ((pc, .ldc ix, len, [v, w]) :: k) ls st σ Q ↔ xw S d ret code k ls (.int (Int32.ofInt v) :: st) σ Q := xw_sx rfl
theorem xi_ldcs {ix : Nat} {w : Int} : xw S d ret code ((pc, .ldc ix, len, [w]) :: k) ls st σ Q ↔ xw S d ret code k ls (.retAddr 300 :: st) σ Q := xw_sx rfl
theorem xi_ldcw {ix : Nat} {v w : Int} : xw S d ret code ((pc, .ldc_w ix, len, [v, w]) :: k) ls st σ Q ↔ xw S d ret code k ls (.int (Int32.ofInt v) :: st) σ Q := xw_sx rfl
theorem xi_ldc2 {ix : Nat} {v : Int} {tl : List Int} : xw S d ret code ((pc, .ldc2_w ix, len, v :: tl) :: k) ls st σ Q ↔ xw S d ret code k ls (.long (Int64.ofInt v) :: st) σ Q := xw_sx rfl
theorem xi_gets {ix : Nat} {j : Int} {tl : List Int} : xw S d ret code ((pc, .getstatic ix, len, j :: tl) :: k) ls st σ Q ↔ xw S d ret code k ls ((if j = 101 then .int 1 else .retAddr j.toNat) :: st) σ Q := by
  rw [xw_sx rfl]
  by_cases h : j = 101 <;> simp [xwm, dm_sx, h]
theorem xi_iload {i : Nat} : xw S d ret code ((pc, .iload i, len, aux) :: k) ls (st) σ Q ↔ xwm S d ret code k Q (dm_ld ls st σ i dm_kI) := xw_sx rfl
theorem xi_iload_0 : xw S d ret code ((pc, .iload_n 0, len, aux) :: k) ls (st) σ Q ↔ xwm S d ret code k Q (dm_ld ls st σ 0 dm_kI) := xw_sx rfl
theorem xi_iload_1 : xw S d ret code ((pc, .iload_n 1, len, aux) :: k) ls (st) σ Q ↔ xwm S d ret code k Q (dm_ld ls st σ 1 dm_kI) := xw_sx rfl
theorem xi_iload_2 : xw S d ret code ((pc, .iload_n 2, len, aux) :: k) ls (st) σ Q ↔ xwm S d ret code k Q (dm_ld ls st σ 2 dm_kI) := xw_sx rfl
theorem xi_iload_3 : xw S d ret code ((pc, .iload_n 3, len, aux) :: k) ls (st) σ Q ↔ xwm S d ret code k Q (dm_ld ls st σ 3 dm_kI) := xw_sx rfl
theorem xi_lload {i : Nat} : xw S d ret code ((pc, .lload i, len, aux) :: k) ls (st) σ Q ↔ xwm S d ret code k Q (dm_ld ls st σ i dm_kL) := xw_sx rfl
theorem xi_lload_0 : xw S d ret code ((pc, .lload_n 0, len, aux) :: k) ls (st) σ Q ↔ xwm S d ret code k Q (dm_ld ls st σ 0 dm_kL) := xw_sx rfl
theorem xi_lload_1 : xw S d ret code ((pc, .lload_n 1, len, aux) :: k) ls (st) σ Q ↔ xwm S d ret code k Q (dm_ld ls st σ 1 dm_kL) := xw_sx rfl
theorem xi_lload_2 : xw S d ret code ((pc, .lload_n 2, len, aux) :: k) ls (st) σ Q ↔ xwm S d ret code k Q (dm_ld ls st σ 2 dm_kL) := xw_sx rfl
theorem xi_lload_3 : xw S d ret code ((pc, .lload_n 3, len, aux) :: k) ls (st) σ Q ↔ xwm S d ret code k Q (dm_ld ls st σ 3 dm_kL) := xw_sx rfl
theorem xi_aload {i : Nat} : xw S d ret code ((pc, .aload i, len, aux) :: k) ls (st) σ Q ↔ xwm S d ret code k Q (dm_ld ls st σ i dm_kA) := xw_sx rfl
theorem xi_aload_0 : xw S d ret code ((pc, .aload_n 0, len, aux) :: k) ls (st) σ Q ↔ xwm S d ret code k Q (dm_ld ls st σ 0 dm_kA) := xw_sx rfl
theorem xi_aload_1 : xw S d ret code ((pc, .aload_n 1, len, aux) :: k) ls (st) σ Q ↔ xwm S d ret code k Q (dm_ld ls st σ 1 dm_kA) := xw_sx rfl
theorem xi_aload_2 : xw S d ret code ((pc, .aload_n 2, len, aux) :: k) ls (st) σ Q ↔ xwm S d ret code k Q (dm_ld ls st σ 2 dm_kA) := xw_sx rfl
theorem xi_aload_3 : xw S d ret code ((pc, .aload_n 3, len, aux) :: k) ls (st) σ Q ↔ xwm S d ret code k Q (dm_ld ls st σ 3 dm_kA) := xw_sx rfl
theorem xi_istore {i : Nat} {x : Int32} : xw S d ret code ((pc, .istore i, len, aux) :: k) ls (.int x :: st) σ Q ↔ xw S d ret code k (dm_put1 ls i (.int x)) st σ Q := xw_sx rfl
theorem xi_istore_0 {x : Int32} : xw S d ret code ((pc, .istore_n 0, len, aux) :: k) ls (.int x :: st) σ Q ↔ xw S d ret code k (dm_put1 ls 0 (.int x)) st σ Q := xw_sx rfl
theorem xi_istore_1 {x : Int32} : xw S d ret code ((pc, .istore_n 1, len, aux) :: k) ls (.int x :: st) σ Q ↔ xw S d ret code k (dm_put1 ls 1 (.int x)) st σ Q := xw_sx rfl
theorem xi_istore_2 {x : Int32} : xw S d ret code ((pc, .istore_n 2, len, aux) :: k) ls (.int x :: st) σ Q ↔ xw S d ret code k (dm_put1 ls 2 (.int x)) st σ Q := xw_sx rfl
theorem xi_istore_3 {x : Int32} : xw S d ret code ((pc, .istore_n 3, len, aux) :: k) ls (.int x :: st) σ Q ↔ xw S d ret code k (dm_put1 ls 3 (.int x)) st σ Q := xw_sx rfl
theorem xi_astore {i : Nat} {x : Nat} : xw S d ret code ((pc, .astore i, len, aux) :: k) ls (.ref x :: st) σ Q ↔ xw S d ret code k (dm_put1 ls i (.ref x)) st σ Q := xw_sx rfl
theorem xi_astore_0 {x : Nat} : xw S d ret code ((pc, .astore_n 0, len, aux) :: k) ls (.ref x :: st) σ Q ↔ xw S d ret code k (dm_put1 ls 0 (.ref x)) st σ Q := xw_sx rfl
theorem xi_astore_1 {x : Nat} : xw S d ret code ((pc, .astore_n 1, len, aux) :: k) ls (.ref x :: st) σ Q ↔ xw S d ret code k (dm_put1 ls 1 (.ref x)) st σ Q := xw_sx rfl
theorem xi_astore_2 {x : Nat} : xw S d ret code ((pc, .astore_n 2, len, aux) :: k) ls (.ref x :: st) σ Q ↔ xw S d ret code k (dm_put1 ls 2 (.ref x)) st σ Q := xw_sx rfl
theorem xi_astore_3 {x : Nat} : xw S d ret code ((pc, .astore_n 3, len, aux) :: k) ls (.ref x :: st) σ Q ↔ xw S d ret code k (dm_put1 ls 3 (.ref x)) st σ Q := xw_sx rfl
theorem xi_lstore {i : Nat} {x : Int64} : xw S d ret code ((pc, .lstore i, len, aux) :: k) ls (.long x :: st) σ Q ↔ xw S d ret code k (dm_put2 ls i (.long x)) st σ Q := xw_sx rfl
theorem xi_lstore_0 {x : Int64} : xw S d ret code ((pc, .lstore_n 0, len, aux) :: k) ls (.long x :: st) σ Q ↔ xw S d ret code k (dm_put2 ls 0 (.long x)) st σ Q := xw_sx rfl
theorem xi_lstore_1 {x : Int64} : xw S d ret code ((pc, .lstore_n 1, len, aux) :: k) ls (.long x :: st) σ Q ↔ xw S d ret code k (dm_put2 ls 1 (.long x)) st σ Q := xw_sx rfl
theorem xi_lstore_2 {x : Int64} : xw S d ret code ((pc, .lstore_n 2, len, aux) :: k) ls (.long x :: st) σ Q ↔ xw S d ret code k (dm_put2 ls 2 (.long x)) st σ Q := xw_sx rfl
theorem xi_lstore_3 {x : Int64} : xw S d ret code ((pc, .lstore_n 3, len, aux) :: k) ls (.long x :: st) σ Q ↔ xw S d ret code k (dm_put2 ls 3 (.long x)) st σ Q := xw_sx rfl
theorem xi_iinc {i : Nat} {v : Int} : xw S d ret code ((pc, .iinc i v, len, aux) :: k) ls (st) σ Q ↔ xwm S d ret code k Q (match dm_get ls i with
    | some (.int x) => some (dm_put1 ls i (.int (x + Int32.ofInt v)), st, σ)
    | _ => none) := xw_sx rfl
theorem xi_dupI {x : Int32} : xw S d ret code ((pc, .dup, len, aux) :: k) ls (.int x :: st) σ Q ↔ xw S d ret code k ls (.int x :: .int x :: st) σ Q := xw_sx rfl
theorem xi_dupR {x : Nat} : xw S d ret code ((pc, .dup, len, aux) :: k) ls (.ref x :: st) σ Q ↔ xw S d ret code k ls (.ref x :: .ref x :: st) σ Q := xw_sx rfl
theorem xi_dup2 {x : Int32} {a : Nat} : xw S d ret code ((pc, .dup2, len, aux) :: k) ls (.int x :: .ref a :: st) σ Q ↔ xw S d ret code k ls (.int x :: .ref a :: .int x :: .ref a :: st) σ Q := xw_sx rfl
theorem xi_popI {x : Int32} : xw S d ret code ((pc, .pop, len, aux) :: k) ls (.int x :: st) σ Q ↔ xw S d ret code k ls (st) σ Q := xw_sx rfl
theorem xi_getf {ix : Nat} {v : Value} : xw S d ret code ((pc, .getfield ix, len, aux) :: k) ls (v :: st) σ Q ↔ xwm S d ret code k Q (dm_gf ls (v :: st) σ aux) := xw_sx rfl
theorem xi_putf {ix : Nat} {v w : Value} : xw S d ret code ((pc, .putfield ix, len, aux) :: k) ls (v :: w :: st) σ Q ↔ xwm S d ret code k Q (dm_pf ls (v :: w :: st) σ aux) := xw_sx rfl
theorem xi_iaload {v w : Value} : xw S d ret code ((pc, .iaload, len, aux) :: k) ls (v :: w :: st) σ Q ↔ xwm S d ret code k Q (dm_ald S ls (v :: w :: st) σ 0) := xw_sx rfl
theorem xi_laload {v w : Value} : xw S d ret code ((pc, .laload, len, aux) :: k) ls (v :: w :: st) σ Q ↔ xwm S d ret code k Q (dm_ald S ls (v :: w :: st) σ 1) := xw_sx rfl
theorem xi_caload {v w : Value} : xw S d ret code ((pc, .caload, len, aux) :: k) ls (v :: w :: st) σ Q ↔ xwm S d ret code k Q (dm_ald S ls (v :: w :: st) σ 2) := xw_sx rfl
theorem xi_baload {v w : Value} : xw S d ret code ((pc, .baload, len, aux) :: k) ls (v :: w :: st) σ Q ↔ xwm S d ret code k Q (dm_ald S ls (v :: w :: st) σ 3) := xw_sx rfl
theorem xi_aaload {v w : Value} : xw S d ret code ((pc, .aaload, len, aux) :: k) ls (v :: w :: st) σ Q ↔ xwm S d ret code k Q (dm_aald ls (v :: w :: st) σ) := xw_sx rfl
theorem xi_iastore {u v w : Value} : xw S d ret code ((pc, .iastore, len, aux) :: k) ls (u :: v :: w :: st) σ Q ↔ xwm S d ret code k Q (dm_ast ls (u :: v :: w :: st) σ 0) := xw_sx rfl
theorem xi_castore {u v w : Value} : xw S d ret code ((pc, .castore, len, aux) :: k) ls (u :: v :: w :: st) σ Q ↔ xwm S d ret code k Q (dm_ast ls (u :: v :: w :: st) σ 2) := xw_sx rfl
theorem xi_bastore {u v w : Value} : xw S d ret code ((pc, .bastore, len, aux) :: k) ls (u :: v :: w :: st) σ Q ↔ xwm S d ret code k Q (dm_ast ls (u :: v :: w :: st) σ 3) := xw_sx rfl
theorem xi_lastore {u v w : Value} : xw S d ret code ((pc, .lastore, len, aux) :: k) ls (u :: v :: w :: st) σ Q ↔ xwm S d ret code k Q (dm_last ls (u :: v :: w :: st) σ) := xw_sx rfl
theorem xi_alen {v : Value} : xw S d ret code ((pc, .arraylength, len, aux) :: k) ls (v :: st) σ Q ↔ xwm S d ret code k Q (dm_len S ls (v :: st) σ) := xw_sx rfl
end XI
