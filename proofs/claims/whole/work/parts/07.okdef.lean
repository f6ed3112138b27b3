/-! What is checked of each resolved instruction, once, by computation. -/
/-- a word of the tables by its list and its place there -/
def dm_tk (c : Nat) : List Cond := match c with
  | 0 => tables_1_1 | 1 => tables_1_2 | 2 => tables_1_3 | 3 => tables_1_4 | 4 => tables_1_5 | 5 => tables_1_6 | 6 => tables_1_7 | 7 => tables_1_8 | _ => []
def dm_tx (w : Nat) : Option Cond := (dm_tk (w / 1000))[w % 1000]?
theorem dm_tk_mem {c : Nat} {x : Cond} (h : x ∈ dm_tk c) : x ∈ tables_1 := by
  unfold tables_1
  unfold dm_tk at h
  simp only [List.mem_append]
  split at h
  · exact Or.inl h
  · exact Or.inr (Or.inl h)
  · exact Or.inr (Or.inr (Or.inl h))
  · exact Or.inr (Or.inr (Or.inr (Or.inl h)))
  · exact Or.inr (Or.inr (Or.inr (Or.inr (Or.inl h))))
  · exact Or.inr (Or.inr (Or.inr (Or.inr (Or.inr (Or.inl h)))))
  · exact Or.inr (Or.inr (Or.inr (Or.inr (Or.inr (Or.inr (Or.inl h))))))
  · exact Or.inr (Or.inr (Or.inr (Or.inr (Or.inr (Or.inr (Or.inr h))))))
  · exact absurd h List.not_mem_nil
theorem dm_tx_mem {w : Nat} {x : Cond} (h : dm_tx w = some x) : x ∈ tables_1 := dm_tk_mem (List.mem_of_getElem? h)
def dm_lk (ns w : Int) (a b : Cond) : Bool := if ns = 0 then decide (dm_tx (w.toNat) = some a) else decide (dm_nw[w.toNat]? = some b)
abbrev dm_RW : String := "PulseRent$Word"
abbrev dm_dW : String := "LPulseRent$Word;"
/-- the length of an instruction -/
def dm_ln (i : Instr) : Nat := match i with
  | .bipush _ => 2 | .sipush _ => 3 | .ldc _ => 2 | .ldc_w _ => 3 | .ldc2_w _ => 3
  | .iload _ => 2 | .lload _ => 2 | .aload _ => 2 | .istore _ => 2 | .lstore _ => 2 | .astore _ => 2 | .iinc _ _ => 3
  | .getfield _ => 3 | .putfield _ => 3 | .getstatic _ => 3 | .new _ => 3 | .newarray _ => 2 | .anewarray _ => 3 | .multianewarray _ _ => 4
  | .goto _ => 3 | .if_icmp _ _ => 3 | .ifCond _ _ => 3 | .ifnull _ => 3 | .ifnonnull _ => 3 | .if_acmp _ _ => 3
  | .invokevirtual _ => 3 | .invokestatic _ => 3 | .invokespecial _ => 3
  | _ => 1
def dm_okF (own : String) (ix : Nat) (aux : List Int) : Bool := match aux with
  | [ci, k, ns, w] => match dm_cl[ci.toNat]? with
    | some q => decide (k.toNat < q.2.2) && (decide ((q.2.1 k.toNat).1 = q.1) && dm_lk ns w (.fieldLink own ix q.1 (q.2.1 k.toNat).2.1 (q.2.1 k.toNat).2.2.1) (.fieldLinkNest own ix q.1 (q.2.1 k.toNat).2.1 (q.2.1 k.toNat).2.2.1 RX11))
    | none => false
  | [x, ns, w] => if x = -1 then dm_lk ns w (.fieldLink own ix dm_RW "code" "J") (.fieldLinkNest own ix dm_RW "code" "J" RX11) else if x = -2 then dm_lk ns w (.fieldLink own ix dm_RW "reserved" "Z") (.fieldLinkNest own ix dm_RW "reserved" "Z" RX11) else if x = -3 then dm_lk ns w (.fieldLink own ix RJ0 "value" "[B") (.fieldLinkNest own ix RJ0 "value" "[B" RX11) else if x = -4 then dm_lk ns w (.fieldLink own ix RJ0 "coder" "B") (.fieldLinkNest own ix RJ0 "coder" "B" RX11) else false
  | _ => false
def dm_okP (own : String) (init : Bool) (aux : List Int) : Bool := match aux with
  | [ci, k, ns, _] => match dm_cl[ci.toNat]? with
    | some q => if (q.2.1 k.toNat).2.2.2 then init && (decide (q.1 = own) && decide (ns = 0)) else true
    | none => false
  | _ => false
def dm_okS (own : String) (ix : Nat) (aux : List Int) : Bool := match aux with
  | [j, ns, w] => decide (0 ≤ j) && (if j.toNat = 100 then dm_lk ns w (.fieldLink own ix dm_RW "ALL" "[LPulseRent$Word;") (.fieldLinkNest own ix dm_RW "ALL" "[LPulseRent$Word;" RX11)
      else if j.toNat = 101 then dm_lk ns w (.fieldLink own ix RJ0 "COMPACT_STRINGS" "Z") (.fieldLinkNest own ix RJ0 "COMPACT_STRINGS" "Z" RX11) else decide (j.toNat < 37) && dm_lk ns w (.fieldLink own ix dm_RW (dm_names.getD j.toNat "") dm_dW) (.fieldLinkNest own ix dm_RW (dm_names.getD j.toNat "") dm_dW RX11))
  | _ => false
/-- a method of the table that may be called with this link -/
def dm_okC (own : String) (ix : Nat) (kd : Int) (aux : List Int) : Bool := match aux with
  | [kd', mi, na, ci, ns, w] => decide (kd' = kd) && (match dm_tab mi.toNat with
    | some r => decide (mi.toNat ∈ dm_stat ↔ kd = 1) && (decide (kd = 0 → r.1.name ≠ "<init>") && (dm_lk ns w (.methodLink own ix r.1) (.methodLinkNest own ix r.1 RX11) && (decide ((parseMethodDescriptor r.1.desc).map (fun d => d.parameters.length + (if kd = 1 then 0 else 1)) = some na.toNat)
        && (if kd = 1 then true else if ci = 99 then decide (kd = 0 ∧ r.1.cls = RJ0) else match dm_cl[ci.toNat]? with
          | some q => decide (q.1 = r.1.cls) && (if kd = 2 then decide (r.1.name = "<init>") && decide (r.2.2.2.1 = none) else true)
          | none => false))))
    | none => decide (kd = 1 ∧ ns = 0 ∧ na = 4 ∧ ((mi = 1000 ∧ dm_tx (w.toNat) = some (.methodLink own ix yL_lease)) ∨ (mi = 1001 ∧ dm_tx (w.toNat) = some (.methodLink own ix yL_share)))))
  | [3, w] => decide (kd = 2) && decide (dm_tx (w.toNat) = some (.methodLink own ix objectInit))
  | [4, w] => decide (kd = 1) && decide (dm_tx (w.toNat) = some (.methodLink own ix arraycopyName))
  | [6, w] => decide (kd = 1) && decide (dm_tx (w.toNat) = some (.methodLink own ix Lib.Math.max.name))
  | [7, w] => decide (kd = 1) && decide (dm_tx (w.toNat) = some (.methodLink own ix Lib.Math.min.name))
  | [9] => true
  | _ => false
def dm_okI (own : String) (bytes : ByteArray) (init : Bool) (o : dm_Op) : Bool :=
  decide (decode bytes o.1 = .ok (o.2.1, o.2.2.1)) && ((match o.2.1 with
  | .tableswitch _ _ _ _ => true
  | i => decide (o.2.2.1 = dm_ln i)) && (match o.2.1 with
  | .getfield ix => dm_okF own ix o.2.2.2
  | .putfield ix => dm_okF own ix o.2.2.2 && dm_okP own init o.2.2.2
  | .getstatic ix => dm_okS own ix o.2.2.2
  | .ldc ix => (match o.2.2.2 with
    | [v, w] => decide (dm_tx (w.toNat) = some (.constant own ix (Int32.ofInt v)))
    | [w] => decide (dm_tx (w.toNat) = some (.stringRef own ix "()<=+-*;"))
    | _ => false)
  | .ldc_w ix => (match o.2.2.2 with
    | [v, w] => decide (dm_tx (w.toNat) = some (.constant own ix (Int32.ofInt v)))
    | _ => false)
  | .ldc2_w ix => (match o.2.2.2 with
    | [v, w] => decide (dm_tx (w.toNat) = some (.constantLong own ix (Int64.ofInt v)))
    | _ => false)
  | .new ix => (match o.2.2.2 with
    | [ci, w] => (match dm_cl[ci.toNat]? with
      | some q => decide (dm_tx (w.toNat) = some (.classLink own ix q.1))
      | none => false)
    | _ => false)
  | .anewarray ix => (match o.2.2.2 with
    | [t, w] => decide ((t = 4 ∧ dm_tx (w.toNat) = some (.classLink own ix RX6)) ∨ (t = 5 ∧ dm_tx (w.toNat) = some (.classLink own ix RX7)))
    | _ => false)
  | .multianewarray ix dims => (match o.2.2.2 with
    | [w] => decide (dims = 2) && decide (dm_tx (w.toNat) = some (.classLink own ix "[[I"))
    | _ => false)
  | .invokevirtual ix => dm_okC own ix 0 o.2.2.2
  | .invokestatic ix => dm_okC own ix 1 o.2.2.2
  | .invokespecial ix => dm_okC own ix 2 o.2.2.2
  | _ => true))
/-- one behind the other -/
def dm_lin : Nat → List dm_Op → Bool
  | _, [] => true
  | pc, o :: k => decide (o.1 = pc) && dm_lin (o.1 + o.2.2.1) k
def dm_okM (own : String) (bytes : ByteArray) (init : Bool) (code : List dm_Op) : Bool := dm_lin 0 code && code.all (dm_okI own bytes init)
