/-! Locals by place. -/
def pv_n (v : Value) : Bool := match v with
  | .null => true
  | _ => false
def pv : Nat → List Value → dm_Lv
  | _, [] => []
  | i, v :: t => match pv_n v with
    | true => pv (i + 1) t
    | false => (i, v) :: pv (i + 1) t
def lvs (vs : List Value) : dm_Lv := pv 0 vs
def kl (v : Value) : Value := match v with
  | .long _ => .null
  | .double _ => .null
  | v => v
def vset : List Value → Nat → Value → List Value
  | [], _, _ => []
  | _ :: t, 0, v => v :: t
  | a :: t, 1, v => kl a :: vset t 0 v
  | a :: t, i + 2, v => a :: vset t (i + 1) v
def pvo (i : Nat) (o : Option Value) : dm_Lv := match o with
  | some v => match pv_n v with
    | true => []
    | false => [(i, v)]
  | none => []
theorem pv_lo : ∀ (vs : List Value) (s j : Nat), j < s → (pv s vs).filter (fun q => q.1 == j) = []
  | [], _, _, _ => rfl
  | v :: t, s, j, h => by
    simp only [pv]
    cases pv_n v with
    | true => exact pv_lo t (s + 1) j (by omega)
    | false =>
      have e : (s == j) = false := by simp; omega
      simp only [List.filter_cons, e, Bool.false_eq_true, if_false]
      exact pv_lo t (s + 1) j (by omega)
theorem pv_at : ∀ (vs : List Value) (s j : Nat), (pv s vs).filter (fun q => q.1 == s + j) = pvo (s + j) vs[j]?
  | [], _, _ => rfl
  | v :: t, s, 0 => by
    simp only [pv, List.getElem?_cons_zero, pvo, Nat.add_zero]
    cases pv_n v with
    | true => exact pv_lo t (s + 1) s (by omega)
    | false =>
      simp only [List.filter_cons, beq_self_eq_true, if_true]
      rw [pv_lo t (s + 1) s (by omega)]
  | v :: t, s, j + 1 => by
    have ih := pv_at t (s + 1) j
    rw [show s + 1 + j = s + (j + 1) by omega] at ih
    simp only [pv, List.getElem?_cons_succ]
    cases pv_n v with
    | true => exact ih
    | false =>
      have e : (s == s + (j + 1)) = false := by simp
      simp only [List.filter_cons, e, Bool.false_eq_true, if_false]
      exact ih
theorem lvs_at (vs : List Value) (j : Nat) : (lvs vs).filter (fun q => q.1 == j) = pvo j vs[j]? := by
  have h := pv_at vs 0 j
  rwa [Nat.zero_add] at h
/-- the same locals -/
def le (a b : dm_Lv) : Prop := ∀ i : Nat, a.filter (fun q => q.1 == i) = b.filter (fun q => q.1 == i)
theorem le_get {a b : dm_Lv} (h : le a b) (i : Nat) : dm_get a i = dm_get b i := by
  unfold dm_get
  rw [← List.head?_filter, ← List.head?_filter, h i]
theorem fl_comm {α : Type} (p q : α → Bool) (l : List α) : (l.filter p).filter q = (l.filter q).filter p := by
  rw [List.filter_filter, List.filter_filter]
  exact List.filter_congr (fun x _ => Bool.and_comm _ _)
theorem le_flt {a b : dm_Lv} (h : le a b) (p : Nat × Value → Bool) : le (a.filter p) (b.filter p) := fun i => by
  rw [fl_comm, fl_comm p, h i]
theorem le_cons {a b : dm_Lv} (h : le a b) (x : Nat × Value) : le (x :: a) (x :: b) := fun i => by
  rw [List.filter_cons, List.filter_cons, h i]
theorem le_put1 {a b : dm_Lv} (h : le a b) (i : Nat) (v : Value) : le (dm_put1 a i v) (dm_put1 b i v) := le_cons (le_flt h _) _
theorem le_put2 {a b : dm_Lv} (h : le a b) (i : Nat) (v : Value) : le (dm_put2 a i v) (dm_put2 b i v) := le_cons (le_flt h _) _
def leM (x y : Option dm_Mv) : Prop := match x, y with
  | none, none => True
  | some (a, s, t), some (b, s', t') => le a b ∧ s = s' ∧ t = t'
  | _, _ => False
theorem leM_if {a b : dm_Lv} (h : le a b) {c : Prop} [Decidable c] {st : List Value} {σ : dm_St} : leM (if c then some (a, st, σ) else none) (if c then some (b, st, σ) else none) := by
  by_cases hc : c
  · rw [if_pos hc, if_pos hc]; exact ⟨h, rfl, rfl⟩
  · rw [if_neg hc, if_neg hc]; trivial
theorem leM_ld {a b : dm_Lv} (h : le a b) (st : List Value) (σ : dm_St) (i : Nat) (ok : Value → Bool) : leM (dm_ld a st σ i ok) (dm_ld b st σ i ok) := by
  unfold dm_ld
  rw [le_get h i]
  cases dm_get b i with
  | none => trivial
  | some v => exact leM_if h
theorem leM_st1 {a b : dm_Lv} (h : le a b) (st : List Value) (σ : dm_St) (i : Nat) (ok : Value → Bool) : leM (dm_st1 a st σ i ok) (dm_st1 b st σ i ok) := by
  unfold dm_st1
  cases st with
  | nil => trivial
  | cons v t => exact leM_if (le_put1 h i v)
theorem leM_st2 {a b : dm_Lv} (h : le a b) (st : List Value) (σ : dm_St) (i : Nat) : leM (dm_st2 a st σ i) (dm_st2 b st σ i) := by
  unfold dm_st2
  split
  · exact ⟨le_put2 h _ _, rfl, rfl⟩
  · trivial
theorem leM_gf {a b : dm_Lv} (h : le a b) (st : List Value) (σ : dm_St) (aux : List Int) : leM (dm_gf a st σ aux) (dm_gf b st σ aux) := by
  unfold dm_gf
  split
  · exact leM_if h
  · repeat' split
    all_goals first | exact ⟨h, rfl, rfl⟩ | trivial
  · trivial
theorem leM_pf {a b : dm_Lv} (h : le a b) (st : List Value) (σ : dm_St) (aux : List Int) : leM (dm_pf a st σ aux) (dm_pf b st σ aux) := by
  unfold dm_pf
  repeat' split
  all_goals first | exact ⟨h, rfl, rfl⟩ | trivial
theorem leM_ald {a b : dm_Lv} (h : le a b) (S : dm_Sc) (st : List Value) (σ : dm_St) (t : Nat) : leM (dm_ald S a st σ t) (dm_ald S b st σ t) := by
  unfold dm_ald
  split
  · split
    · split
      · exact ⟨h, rfl, rfl⟩
      · trivial
    · trivial
  · split
    · exact ⟨h, rfl, rfl⟩
    · split
      · exact ⟨h, rfl, rfl⟩
      · trivial
  · trivial
theorem leM_aald {a b : dm_Lv} (h : le a b) (st : List Value) (σ : dm_St) : leM (dm_aald a st σ) (dm_aald b st σ) := by
  unfold dm_aald
  repeat' split
  all_goals first | exact ⟨h, rfl, rfl⟩ | trivial
theorem leM_ast {a b : dm_Lv} (h : le a b) (st : List Value) (σ : dm_St) (t : Nat) : leM (dm_ast a st σ t) (dm_ast b st σ t) := by
  unfold dm_ast
  repeat' split
  all_goals first | exact ⟨h, rfl, rfl⟩ | trivial
theorem leM_last {a b : dm_Lv} (h : le a b) (st : List Value) (σ : dm_St) : leM (dm_last a st σ) (dm_last b st σ) := by
  unfold dm_last
  repeat' split
  all_goals first | exact ⟨h, rfl, rfl⟩ | trivial
theorem leM_aast {a b : dm_Lv} (h : le a b) (st : List Value) (σ : dm_St) : leM (dm_aast a st σ) (dm_aast b st σ) := by
  unfold dm_aast
  repeat' split
  all_goals first | exact ⟨h, rfl, rfl⟩ | trivial
theorem leM_len {a b : dm_Lv} (h : le a b) (S : dm_Sc) (st : List Value) (σ : dm_St) : leM (dm_len S a st σ) (dm_len S b st σ) := by
  unfold dm_len
  repeat' split
  all_goals first | exact ⟨h, rfl, rfl⟩ | trivial
theorem leM_new {a b : dm_Lv} (h : le a b) (st : List Value) (σ : dm_St) (x : dm_Sh) : leM (dm_new a st σ x) (dm_new b st σ x) := by
  unfold dm_new
  exact leM_if h
theorem leM_newa {a b : dm_Lv} (h : le a b) (st : List Value) (σ : dm_St) (t : Nat) : leM (dm_newa a st σ t) (dm_newa b st σ t) := by
  unfold dm_newa
  repeat' split
  all_goals first | exact leM_new h _ _ _ | trivial
theorem leM_acopy {a b : dm_Lv} (h : le a b) (st : List Value) (σ : dm_St) : leM (dm_acopy a st σ) (dm_acopy b st σ) := by
  unfold dm_acopy
  repeat' split
  all_goals first | exact ⟨h, rfl, rfl⟩ | trivial
theorem leM_b {a b : dm_Lv} (h : le a b) (st : List Value) (σ : dm_St) (f : Int32 → Int32 → Int32) : leM (dm_b a st σ f) (dm_b b st σ f) := by
  unfold dm_b
  repeat' split
  all_goals first | exact ⟨h, rfl, rfl⟩ | trivial
theorem leM_b0 {a b : dm_Lv} (h : le a b) (st : List Value) (σ : dm_St) (f : Int32 → Int32 → Int32) : leM (dm_b0 a st σ f) (dm_b0 b st σ f) := by
  unfold dm_b0
  repeat' split
  all_goals first | exact ⟨h, rfl, rfl⟩ | trivial
theorem leM_bl {a b : dm_Lv} (h : le a b) (st : List Value) (σ : dm_St) (f : Int64 → Int64 → Int64) : leM (dm_bl a st σ f) (dm_bl b st σ f) := by
  unfold dm_bl
  repeat' split
  all_goals first | exact ⟨h, rfl, rfl⟩ | trivial
theorem leM_bl0 {a b : dm_Lv} (h : le a b) (st : List Value) (σ : dm_St) (f : Int64 → Int64 → Int64) : leM (dm_bl0 a st σ f) (dm_bl0 b st σ f) := by
  unfold dm_bl0
  repeat' split
  all_goals first | exact ⟨h, rfl, rfl⟩ | trivial
theorem leM_bs {a b : dm_Lv} (h : le a b) (st : List Value) (σ : dm_St) (f : Int64 → Int32 → Int64) : leM (dm_bs a st σ f) (dm_bs b st σ f) := by
  unfold dm_bs
  repeat' split
  all_goals first | exact ⟨h, rfl, rfl⟩ | trivial
set_option maxHeartbeats 4000000 in
theorem leM_sx {a b : dm_Lv} (h : le a b) (S : dm_Sc) (i : Instr) (aux : List Int) (st : List Value) (σ : dm_St) : leM (dm_sx S i aux a st σ) (dm_sx S i aux b st σ) := by
  cases i
  case iinc i v =>
    simp only [dm_sx]
    rw [le_get h i]
    split
    · exact ⟨le_put1 h _ _, rfl, rfl⟩
    · trivial
  case newarray t => cases t <;> first | exact leM_newa h _ _ _ | trivial
  all_goals first
    | trivial
    | exact ⟨h, rfl, rfl⟩
    | exact leM_ld h _ _ _ _
    | exact leM_st1 h _ _ _ _
    | exact leM_st2 h _ _ _
    | exact leM_b h _ _ _
    | exact leM_b0 h _ _ _
    | exact leM_bl h _ _ _
    | exact leM_bl0 h _ _ _
    | exact leM_bs h _ _ _
    | exact leM_gf h _ _ _
    | exact leM_pf h _ _ _
    | exact leM_ald h _ _ _ _
    | exact leM_aald h _ _
    | exact leM_ast h _ _ _
    | exact leM_last h _ _
    | exact leM_aast h _ _
    | exact leM_len h _ _ _
    | (simp only [dm_sx]
       repeat' split
       all_goals first | exact ⟨h, rfl, rfl⟩ | exact leM_new h _ _ _ | exact leM_newa h _ _ _ | trivial)
theorem leM_inv {a b : dm_Lv} (h : le a b) (call : Nat → List Value → dm_St → dm_Rs) (aux : List Int) (st : List Value) (σ : dm_St) : leM (dm_inv call aux a st σ) (dm_inv call aux b st σ) := by
  unfold dm_inv
  split
  · dsimp only
    split
    · split
      · exact ⟨h, rfl, rfl⟩
      · trivial
    · trivial
  · repeat' split
    all_goals first | exact ⟨h, rfl, rfl⟩ | trivial
  · exact leM_acopy h _ _
  · repeat' split
    all_goals first | exact ⟨h, rfl, rfl⟩ | trivial
  · repeat' split
    all_goals first | exact ⟨h, rfl, rfl⟩ | trivial
  · trivial
def leN (x y : dm_Nx) : Prop := match x, y with
  | none, none => True
  | some (.inl r), some (.inl r') => r = r'
  | some (.inr (k, a, s, t)), some (.inr (k', b, s', t')) => k = k' ∧ le a b ∧ s = s' ∧ t = t'
  | _, _ => False
theorem leN_mv {x y : Option dm_Mv} (h : leM x y) (k : List dm_Op) : leN (xn_mv k x) (xn_mv k y) := by
  cases x with
  | none => cases y with
    | none => trivial
    | some y => exact h.elim
  | some x => cases y with
    | none => exact h.elim
    | some y => exact ⟨rfl, h⟩
set_option maxHeartbeats 4000000 in
theorem leN_xn {a b : dm_Lv} (h : le a b) (S : dm_Sc) (call : Nat → List Value → dm_St → dm_Rs) (ret : Option FieldType) (code : List dm_Op) (o : dm_Op) (k : List dm_Op) (st : List Value) (σ : dm_St) : leN (xn S call ret code o k a st σ) (xn S call ret code o k b st σ) := by
  obtain ⟨pc, i, len, aux⟩ := o
  have hs := leN_mv (leM_sx h S i aux st σ) k
  cases i
  case if_acmp cnd off =>
    cases cnd with
    | eq => exact hs
    | ne =>
      simp only [xn]
      repeat' split
      all_goals first | exact ⟨rfl, h, rfl, rfl⟩ | trivial
  all_goals first
    | exact hs
    | exact leN_mv (leM_inv h call aux st σ) k
    | exact ⟨rfl, h, rfl, rfl⟩
    | (simp only [xn]
       repeat' split
       all_goals first | exact ⟨rfl, h, rfl, rfl⟩ | trivial | rfl)
theorem le_exec {S : dm_Sc} {call : Nat → List Value → dm_St → dm_Rs} {ret : Option FieldType} {code : List dm_Op} : ∀ (n : Nat) (k : List dm_Op) (a b : dm_Lv) (st : List Value) (σ : dm_St), le a b → dm_exec S call ret code n k a st σ = dm_exec S call ret code n k b st σ
  | 0, _, _, _, _, _, _ => rfl
  | n + 1, [], _, _, _, _, _ => rfl
  | n + 1, o :: k, a, b, st, σ, h => by
    rw [xn_exec, xn_exec]
    have h1 := leN_xn h S call ret code o k st σ
    generalize xn S call ret code o k a st σ = x at h1 ⊢
    generalize xn S call ret code o k b st σ = y at h1 ⊢
    match x, y, h1 with
    | none, none, _ => rfl
    | some (.inl r), some (.inl r'), h1 => exact congrArg some h1
    | some (.inr (k1, a1, s1, t1)), some (.inr (k2, b1, s2, t2)), h1 =>
      obtain ⟨rfl, h2, rfl, rfl⟩ := h1
      exact le_exec n k1 a1 b1 s1 t1 h2
theorem le_xw {S : dm_Sc} {d : Nat} {ret : Option FieldType} {code k : List dm_Op} {a b : dm_Lv} {st : List Value} {σ : dm_St} {Q : Option Value → dm_St → Prop} (h : le a b) : xw S d ret code k a st σ Q ↔ xw S d ret code k b st σ Q := by
  unfold xw
  simp only [fun n N => le_exec (S := S) (call := dm_run S dm_tab d N) (ret := ret) (code := code) n k a b st σ h]
theorem vset_at : ∀ (vs : List Value) (i j : Nat) (v : Value), i < vs.length → (vset vs i v)[j]? = if j = i then some v else if j + 1 = i then (vs[j]?).map kl else vs[j]?
  | [], _, _, _, h => by simp at h
  | a :: t, 0, 0, v, _ => by simp [vset]
  | a :: t, 0, j + 1, v, _ => by simp [vset]
  | a :: t, 1, 0, v, _ => by simp [vset]
  | a :: t, 1, j + 1, v, h => by
    have ih := vset_at t 0 j v (by simp at h; omega)
    simp only [vset, List.getElem?_cons_succ, ih]
    simp
  | a :: t, i + 2, 0, v, _ => by simp [vset]
  | a :: t, i + 2, j + 1, v, h => by
    have ih := vset_at t (i + 1) j v (by simp at h; omega)
    simp only [vset, List.getElem?_cons_succ, ih]
    simp
theorem kl_pv (i : Nat) (o : Option Value) : (pvo i o).filter (fun q => !(q.2.category == 2)) = pvo i (o.map kl) := by
  cases o with
  | none => rfl
  | some v => cases v <;> rfl
theorem lvs_put1 (vs : List Value) {i : Nat} {v : Value} (hi : i < vs.length) (hv : pv_n v = false) : le (dm_put1 (lvs vs) i v) (lvs (vset vs i v)) := fun j => by
  rw [lvs_at, vset_at _ _ _ _ hi]
  unfold dm_put1
  rw [List.filter_cons]
  by_cases e : j = i
  · subst e
    simp only [beq_self_eq_true, if_true]
    rw [fl_comm, lvs_at]
    have h0 : (pvo j vs[j]?).filter (fun q => !(q.1 == j) && !(q.1 + 1 == j && q.2.category == 2)) = [] := by
      cases vs[j]? with
      | none => rfl
      | some w => cases w <;> simp [pvo, pv_n]
    rw [h0]
    simp [pvo, hv]
  · have e1 : (i == j) = false := by simp; omega
    simp only [e1, Bool.false_eq_true, if_false, if_neg e]
    rw [fl_comm, lvs_at]
    by_cases e2 : j + 1 = i
    · rw [if_pos e2, ← kl_pv]
      refine List.filter_congr fun q hq => ?_
      have hk : q.1 = j := by
        cases hj : vs[j]? with
        | none => rw [hj] at hq; simp [pvo] at hq
        | some w => rw [hj] at hq; cases w <;> simp [pvo, pv_n] at hq <;> rw [hq]
      have e3 : (j == i) = false := by simp; omega
      have e4 : (j + 1 == i) = true := by simp; omega
      rw [hk, e3, e4]; simp
    · rw [if_neg e2]
      refine List.filter_eq_self.mpr fun q hq => ?_
      have hk : q.1 = j := by
        cases hj : vs[j]? with
        | none => rw [hj] at hq; simp [pvo] at hq
        | some w => rw [hj] at hq; cases w <;> simp [pvo, pv_n] at hq <;> rw [hq]
      have e3 : (j == i) = false := by simp; omega
      have e4 : (j + 1 == i) = false := by simp; omega
      rw [hk, e3, e4]; simp
theorem lvs_put2 (vs : List Value) {i : Nat} {v : Value} (hi : i + 1 < vs.length) (hv : pv_n v = false) : le (dm_put2 (lvs vs) i v) (lvs (vset (vs.set (i + 1) .null) i v)) := fun j => by
  rw [lvs_at, vset_at _ _ _ _ (by rw [List.length_set]; omega)]
  unfold dm_put2
  rw [List.filter_cons]
  have key : ∀ q ∈ pvo j vs[j]?, q.1 = j := fun q hq => by
    cases hj : vs[j]? with
    | none => rw [hj] at hq; simp [pvo] at hq
    | some w => rw [hj] at hq; cases w <;> simp [pvo, pv_n] at hq <;> rw [hq]
  by_cases e : j = i
  · subst e
    simp only [beq_self_eq_true, if_true]
    rw [fl_comm, lvs_at]
    have h0 : (pvo j vs[j]?).filter (fun q => !(q.1 == j) && (!(q.1 == j + 1) && !(q.1 + 1 == j && q.2.category == 2))) = [] := by
      refine List.filter_eq_nil_iff.mpr fun q hq => ?_
      rw [key q hq]; simp
    rw [h0]
    simp [pvo, hv]
  · have e1 : (i == j) = false := by simp; omega
    simp only [e1, Bool.false_eq_true, if_false, if_neg e]
    rw [fl_comm, lvs_at]
    by_cases e5 : j = i + 1
    · subst e5
      have h0 : (pvo (i + 1) vs[i + 1]?).filter (fun q => !(q.1 == i) && (!(q.1 == i + 1) && !(q.1 + 1 == i && q.2.category == 2))) = [] := by
        refine List.filter_eq_nil_iff.mpr fun q hq => ?_
        rw [key q hq]; simp
      rw [h0, if_neg (by omega), List.getElem?_set_self hi]; rfl
    · rw [List.getElem?_set_ne (show i + 1 ≠ j by omega)]
      by_cases e2 : j + 1 = i
      · rw [if_pos e2, ← kl_pv]
        refine List.filter_congr fun q hq => ?_
        have e3 : (j == i) = false := by simp; omega
        have e4 : (j + 1 == i) = true := by simp; omega
        have e6 : (j == i + 1) = false := by simp; omega
        rw [key q hq, e3, e4, e6]; simp
      · rw [if_neg e2]
        refine List.filter_eq_self.mpr fun q hq => ?_
        have e3 : (j == i) = false := by simp; omega
        have e4 : (j + 1 == i) = false := by simp; omega
        have e6 : (j == i + 1) = false := by simp; omega
        rw [key q hq, e3, e4, e6]; simp
theorem lvs_get (vs : List Value) (i : Nat) {v : Value} (h : vs[i]? = some v) (hv : pv_n v = false) : dm_get (lvs vs) i = some v := by
  unfold dm_get
  rw [← List.head?_filter, lvs_at, h]
  simp [pvo, hv]
theorem kl_I (x : Int32) : kl (.int x) = .int x := rfl
theorem kl_R (x : Nat) : kl (.ref x) = .ref x := rfl
theorem kl_X (x : Nat) : kl (.retAddr x) = .retAddr x := rfl
theorem kl_N : kl .null = .null := rfl
theorem kl_L (x : Int64) : kl (.long x) = .null := rfl
section XLV
variable {S : dm_Sc} {d pc len : Nat} {ret : Option FieldType} {code k : List dm_Op} {st t : List Value} {σ : dm_St} {Q : Option Value → dm_St → Prop} {aux : List Int} {a0 a1 a2 a3 a4 a5 a6 a7 a8 a9 a10 a11 a12 a13 a14 a15 : Value} {x : Int32} {y : Int64} {z : Nat}
theorem xl_iload_0 : xw S d ret code ((pc, .iload_n 0, len, aux) :: k) (lvs (.int x :: t)) st σ Q ↔ xw S d ret code k (lvs (.int x :: t)) (.int x :: st) σ Q := by
  rw [xi_iload_0, dm_ld, lvs_get _ 0 rfl rfl]; rfl
theorem xl_lload_0 : xw S d ret code ((pc, .lload_n 0, len, aux) :: k) (lvs (.long y :: t)) st σ Q ↔ xw S d ret code k (lvs (.long y :: t)) (.long y :: st) σ Q := by
  rw [xi_lload_0, dm_ld, lvs_get _ 0 rfl rfl]; rfl
theorem xl_aload_0 : xw S d ret code ((pc, .aload_n 0, len, aux) :: k) (lvs (.ref z :: t)) st σ Q ↔ xw S d ret code k (lvs (.ref z :: t)) (.ref z :: st) σ Q := by
  rw [xi_aload_0, dm_ld, lvs_get _ 0 rfl rfl]; rfl
theorem xl_bload_0 : xw S d ret code ((pc, .aload_n 0, len, aux) :: k) (lvs (.retAddr z :: t)) st σ Q ↔ xw S d ret code k (lvs (.retAddr z :: t)) (.retAddr z :: st) σ Q := by
  rw [xi_aload_0, dm_ld, lvs_get _ 0 rfl rfl]; rfl
theorem xl_istore_0 : xw S d ret code ((pc, .istore_n 0, len, aux) :: k) (lvs (a0 :: t)) (.int x :: st) σ Q ↔ xw S d ret code k (lvs (.int x :: t)) st σ Q := by
  rw [xi_istore_0]
  exact le_xw (lvs_put1 _ (by simp only [List.length_cons]; omega) rfl)
theorem xl_astore_0 : xw S d ret code ((pc, .astore_n 0, len, aux) :: k) (lvs (a0 :: t)) (.ref z :: st) σ Q ↔ xw S d ret code k (lvs (.ref z :: t)) st σ Q := by
  rw [xi_astore_0]
  exact le_xw (lvs_put1 _ (by simp only [List.length_cons]; omega) rfl)
theorem xl_lstore_0 : xw S d ret code ((pc, .lstore_n 0, len, aux) :: k) (lvs (a0 :: a1 :: t)) (.long y :: st) σ Q ↔ xw S d ret code k (lvs (.long y :: .null :: t)) st σ Q := by
  rw [xi_lstore_0]
  exact le_xw (lvs_put2 _ (by simp only [List.length_cons]; omega) rfl)
theorem xl_iinc_0 {v : Int} : xw S d ret code ((pc, .iinc 0 v, len, aux) :: k) (lvs (.int x :: t)) st σ Q ↔ xw S d ret code k (lvs (.int (x + Int32.ofInt v) :: t)) st σ Q := by
  rw [xi_iinc, lvs_get _ 0 rfl rfl]
  exact le_xw (lvs_put1 _ (by simp only [List.length_cons]; omega) rfl)
theorem xl_iload_1 : xw S d ret code ((pc, .iload_n 1, len, aux) :: k) (lvs (a0 :: .int x :: t)) st σ Q ↔ xw S d ret code k (lvs (a0 :: .int x :: t)) (.int x :: st) σ Q := by
  rw [xi_iload_1, dm_ld, lvs_get _ 1 rfl rfl]; rfl
theorem xl_lload_1 : xw S d ret code ((pc, .lload_n 1, len, aux) :: k) (lvs (a0 :: .long y :: t)) st σ Q ↔ xw S d ret code k (lvs (a0 :: .long y :: t)) (.long y :: st) σ Q := by
  rw [xi_lload_1, dm_ld, lvs_get _ 1 rfl rfl]; rfl
theorem xl_aload_1 : xw S d ret code ((pc, .aload_n 1, len, aux) :: k) (lvs (a0 :: .ref z :: t)) st σ Q ↔ xw S d ret code k (lvs (a0 :: .ref z :: t)) (.ref z :: st) σ Q := by
  rw [xi_aload_1, dm_ld, lvs_get _ 1 rfl rfl]; rfl
theorem xl_bload_1 : xw S d ret code ((pc, .aload_n 1, len, aux) :: k) (lvs (a0 :: .retAddr z :: t)) st σ Q ↔ xw S d ret code k (lvs (a0 :: .retAddr z :: t)) (.retAddr z :: st) σ Q := by
  rw [xi_aload_1, dm_ld, lvs_get _ 1 rfl rfl]; rfl
theorem xl_istore_1 : xw S d ret code ((pc, .istore_n 1, len, aux) :: k) (lvs (a0 :: a1 :: t)) (.int x :: st) σ Q ↔ xw S d ret code k (lvs (kl a0 :: .int x :: t)) st σ Q := by
  rw [xi_istore_1]
  exact le_xw (lvs_put1 _ (by simp only [List.length_cons]; omega) rfl)
theorem xl_astore_1 : xw S d ret code ((pc, .astore_n 1, len, aux) :: k) (lvs (a0 :: a1 :: t)) (.ref z :: st) σ Q ↔ xw S d ret code k (lvs (kl a0 :: .ref z :: t)) st σ Q := by
  rw [xi_astore_1]
  exact le_xw (lvs_put1 _ (by simp only [List.length_cons]; omega) rfl)
theorem xl_lstore_1 : xw S d ret code ((pc, .lstore_n 1, len, aux) :: k) (lvs (a0 :: a1 :: a2 :: t)) (.long y :: st) σ Q ↔ xw S d ret code k (lvs (kl a0 :: .long y :: .null :: t)) st σ Q := by
  rw [xi_lstore_1]
  exact le_xw (lvs_put2 _ (by simp only [List.length_cons]; omega) rfl)
theorem xl_iinc_1 {v : Int} : xw S d ret code ((pc, .iinc 1 v, len, aux) :: k) (lvs (a0 :: .int x :: t)) st σ Q ↔ xw S d ret code k (lvs (kl a0 :: .int (x + Int32.ofInt v) :: t)) st σ Q := by
  rw [xi_iinc, lvs_get _ 1 rfl rfl]
  exact le_xw (lvs_put1 _ (by simp only [List.length_cons]; omega) rfl)
theorem xl_iload_2 : xw S d ret code ((pc, .iload_n 2, len, aux) :: k) (lvs (a0 :: a1 :: .int x :: t)) st σ Q ↔ xw S d ret code k (lvs (a0 :: a1 :: .int x :: t)) (.int x :: st) σ Q := by
  rw [xi_iload_2, dm_ld, lvs_get _ 2 rfl rfl]; rfl
theorem xl_lload_2 : xw S d ret code ((pc, .lload_n 2, len, aux) :: k) (lvs (a0 :: a1 :: .long y :: t)) st σ Q ↔ xw S d ret code k (lvs (a0 :: a1 :: .long y :: t)) (.long y :: st) σ Q := by
  rw [xi_lload_2, dm_ld, lvs_get _ 2 rfl rfl]; rfl
theorem xl_aload_2 : xw S d ret code ((pc, .aload_n 2, len, aux) :: k) (lvs (a0 :: a1 :: .ref z :: t)) st σ Q ↔ xw S d ret code k (lvs (a0 :: a1 :: .ref z :: t)) (.ref z :: st) σ Q := by
  rw [xi_aload_2, dm_ld, lvs_get _ 2 rfl rfl]; rfl
theorem xl_bload_2 : xw S d ret code ((pc, .aload_n 2, len, aux) :: k) (lvs (a0 :: a1 :: .retAddr z :: t)) st σ Q ↔ xw S d ret code k (lvs (a0 :: a1 :: .retAddr z :: t)) (.retAddr z :: st) σ Q := by
  rw [xi_aload_2, dm_ld, lvs_get _ 2 rfl rfl]; rfl
theorem xl_istore_2 : xw S d ret code ((pc, .istore_n 2, len, aux) :: k) (lvs (a0 :: a1 :: a2 :: t)) (.int x :: st) σ Q ↔ xw S d ret code k (lvs (a0 :: kl a1 :: .int x :: t)) st σ Q := by
  rw [xi_istore_2]
  exact le_xw (lvs_put1 _ (by simp only [List.length_cons]; omega) rfl)
theorem xl_astore_2 : xw S d ret code ((pc, .astore_n 2, len, aux) :: k) (lvs (a0 :: a1 :: a2 :: t)) (.ref z :: st) σ Q ↔ xw S d ret code k (lvs (a0 :: kl a1 :: .ref z :: t)) st σ Q := by
  rw [xi_astore_2]
  exact le_xw (lvs_put1 _ (by simp only [List.length_cons]; omega) rfl)
theorem xl_lstore_2 : xw S d ret code ((pc, .lstore_n 2, len, aux) :: k) (lvs (a0 :: a1 :: a2 :: a3 :: t)) (.long y :: st) σ Q ↔ xw S d ret code k (lvs (a0 :: kl a1 :: .long y :: .null :: t)) st σ Q := by
  rw [xi_lstore_2]
  exact le_xw (lvs_put2 _ (by simp only [List.length_cons]; omega) rfl)
theorem xl_iinc_2 {v : Int} : xw S d ret code ((pc, .iinc 2 v, len, aux) :: k) (lvs (a0 :: a1 :: .int x :: t)) st σ Q ↔ xw S d ret code k (lvs (a0 :: kl a1 :: .int (x + Int32.ofInt v) :: t)) st σ Q := by
  rw [xi_iinc, lvs_get _ 2 rfl rfl]
  exact le_xw (lvs_put1 _ (by simp only [List.length_cons]; omega) rfl)
theorem xl_iload_3 : xw S d ret code ((pc, .iload_n 3, len, aux) :: k) (lvs (a0 :: a1 :: a2 :: .int x :: t)) st σ Q ↔ xw S d ret code k (lvs (a0 :: a1 :: a2 :: .int x :: t)) (.int x :: st) σ Q := by
  rw [xi_iload_3, dm_ld, lvs_get _ 3 rfl rfl]; rfl
theorem xl_lload_3 : xw S d ret code ((pc, .lload_n 3, len, aux) :: k) (lvs (a0 :: a1 :: a2 :: .long y :: t)) st σ Q ↔ xw S d ret code k (lvs (a0 :: a1 :: a2 :: .long y :: t)) (.long y :: st) σ Q := by
  rw [xi_lload_3, dm_ld, lvs_get _ 3 rfl rfl]; rfl
theorem xl_aload_3 : xw S d ret code ((pc, .aload_n 3, len, aux) :: k) (lvs (a0 :: a1 :: a2 :: .ref z :: t)) st σ Q ↔ xw S d ret code k (lvs (a0 :: a1 :: a2 :: .ref z :: t)) (.ref z :: st) σ Q := by
  rw [xi_aload_3, dm_ld, lvs_get _ 3 rfl rfl]; rfl
theorem xl_bload_3 : xw S d ret code ((pc, .aload_n 3, len, aux) :: k) (lvs (a0 :: a1 :: a2 :: .retAddr z :: t)) st σ Q ↔ xw S d ret code k (lvs (a0 :: a1 :: a2 :: .retAddr z :: t)) (.retAddr z :: st) σ Q := by
  rw [xi_aload_3, dm_ld, lvs_get _ 3 rfl rfl]; rfl
theorem xl_istore_3 : xw S d ret code ((pc, .istore_n 3, len, aux) :: k) (lvs (a0 :: a1 :: a2 :: a3 :: t)) (.int x :: st) σ Q ↔ xw S d ret code k (lvs (a0 :: a1 :: kl a2 :: .int x :: t)) st σ Q := by
  rw [xi_istore_3]
  exact le_xw (lvs_put1 _ (by simp only [List.length_cons]; omega) rfl)
theorem xl_astore_3 : xw S d ret code ((pc, .astore_n 3, len, aux) :: k) (lvs (a0 :: a1 :: a2 :: a3 :: t)) (.ref z :: st) σ Q ↔ xw S d ret code k (lvs (a0 :: a1 :: kl a2 :: .ref z :: t)) st σ Q := by
  rw [xi_astore_3]
  exact le_xw (lvs_put1 _ (by simp only [List.length_cons]; omega) rfl)
theorem xl_lstore_3 : xw S d ret code ((pc, .lstore_n 3, len, aux) :: k) (lvs (a0 :: a1 :: a2 :: a3 :: a4 :: t)) (.long y :: st) σ Q ↔ xw S d ret code k (lvs (a0 :: a1 :: kl a2 :: .long y :: .null :: t)) st σ Q := by
  rw [xi_lstore_3]
  exact le_xw (lvs_put2 _ (by simp only [List.length_cons]; omega) rfl)
theorem xl_iinc_3 {v : Int} : xw S d ret code ((pc, .iinc 3 v, len, aux) :: k) (lvs (a0 :: a1 :: a2 :: .int x :: t)) st σ Q ↔ xw S d ret code k (lvs (a0 :: a1 :: kl a2 :: .int (x + Int32.ofInt v) :: t)) st σ Q := by
  rw [xi_iinc, lvs_get _ 3 rfl rfl]
  exact le_xw (lvs_put1 _ (by simp only [List.length_cons]; omega) rfl)
theorem xl_iload_4 : xw S d ret code ((pc, .iload 4, len, aux) :: k) (lvs (a0 :: a1 :: a2 :: a3 :: .int x :: t)) st σ Q ↔ xw S d ret code k (lvs (a0 :: a1 :: a2 :: a3 :: .int x :: t)) (.int x :: st) σ Q := by
  rw [xi_iload, dm_ld, lvs_get _ 4 rfl rfl]; rfl
theorem xl_lload_4 : xw S d ret code ((pc, .lload 4, len, aux) :: k) (lvs (a0 :: a1 :: a2 :: a3 :: .long y :: t)) st σ Q ↔ xw S d ret code k (lvs (a0 :: a1 :: a2 :: a3 :: .long y :: t)) (.long y :: st) σ Q := by
  rw [xi_lload, dm_ld, lvs_get _ 4 rfl rfl]; rfl
theorem xl_aload_4 : xw S d ret code ((pc, .aload 4, len, aux) :: k) (lvs (a0 :: a1 :: a2 :: a3 :: .ref z :: t)) st σ Q ↔ xw S d ret code k (lvs (a0 :: a1 :: a2 :: a3 :: .ref z :: t)) (.ref z :: st) σ Q := by
  rw [xi_aload, dm_ld, lvs_get _ 4 rfl rfl]; rfl
theorem xl_bload_4 : xw S d ret code ((pc, .aload 4, len, aux) :: k) (lvs (a0 :: a1 :: a2 :: a3 :: .retAddr z :: t)) st σ Q ↔ xw S d ret code k (lvs (a0 :: a1 :: a2 :: a3 :: .retAddr z :: t)) (.retAddr z :: st) σ Q := by
  rw [xi_aload, dm_ld, lvs_get _ 4 rfl rfl]; rfl
theorem xl_istore_4 : xw S d ret code ((pc, .istore 4, len, aux) :: k) (lvs (a0 :: a1 :: a2 :: a3 :: a4 :: t)) (.int x :: st) σ Q ↔ xw S d ret code k (lvs (a0 :: a1 :: a2 :: kl a3 :: .int x :: t)) st σ Q := by
  rw [xi_istore]
  exact le_xw (lvs_put1 _ (by simp only [List.length_cons]; omega) rfl)
theorem xl_astore_4 : xw S d ret code ((pc, .astore 4, len, aux) :: k) (lvs (a0 :: a1 :: a2 :: a3 :: a4 :: t)) (.ref z :: st) σ Q ↔ xw S d ret code k (lvs (a0 :: a1 :: a2 :: kl a3 :: .ref z :: t)) st σ Q := by
  rw [xi_astore]
  exact le_xw (lvs_put1 _ (by simp only [List.length_cons]; omega) rfl)
theorem xl_lstore_4 : xw S d ret code ((pc, .lstore 4, len, aux) :: k) (lvs (a0 :: a1 :: a2 :: a3 :: a4 :: a5 :: t)) (.long y :: st) σ Q ↔ xw S d ret code k (lvs (a0 :: a1 :: a2 :: kl a3 :: .long y :: .null :: t)) st σ Q := by
  rw [xi_lstore]
  exact le_xw (lvs_put2 _ (by simp only [List.length_cons]; omega) rfl)
theorem xl_iinc_4 {v : Int} : xw S d ret code ((pc, .iinc 4 v, len, aux) :: k) (lvs (a0 :: a1 :: a2 :: a3 :: .int x :: t)) st σ Q ↔ xw S d ret code k (lvs (a0 :: a1 :: a2 :: kl a3 :: .int (x + Int32.ofInt v) :: t)) st σ Q := by
  rw [xi_iinc, lvs_get _ 4 rfl rfl]
  exact le_xw (lvs_put1 _ (by simp only [List.length_cons]; omega) rfl)
theorem xl_iload_5 : xw S d ret code ((pc, .iload 5, len, aux) :: k) (lvs (a0 :: a1 :: a2 :: a3 :: a4 :: .int x :: t)) st σ Q ↔ xw S d ret code k (lvs (a0 :: a1 :: a2 :: a3 :: a4 :: .int x :: t)) (.int x :: st) σ Q := by
  rw [xi_iload, dm_ld, lvs_get _ 5 rfl rfl]; rfl
theorem xl_lload_5 : xw S d ret code ((pc, .lload 5, len, aux) :: k) (lvs (a0 :: a1 :: a2 :: a3 :: a4 :: .long y :: t)) st σ Q ↔ xw S d ret code k (lvs (a0 :: a1 :: a2 :: a3 :: a4 :: .long y :: t)) (.long y :: st) σ Q := by
  rw [xi_lload, dm_ld, lvs_get _ 5 rfl rfl]; rfl
theorem xl_aload_5 : xw S d ret code ((pc, .aload 5, len, aux) :: k) (lvs (a0 :: a1 :: a2 :: a3 :: a4 :: .ref z :: t)) st σ Q ↔ xw S d ret code k (lvs (a0 :: a1 :: a2 :: a3 :: a4 :: .ref z :: t)) (.ref z :: st) σ Q := by
  rw [xi_aload, dm_ld, lvs_get _ 5 rfl rfl]; rfl
theorem xl_bload_5 : xw S d ret code ((pc, .aload 5, len, aux) :: k) (lvs (a0 :: a1 :: a2 :: a3 :: a4 :: .retAddr z :: t)) st σ Q ↔ xw S d ret code k (lvs (a0 :: a1 :: a2 :: a3 :: a4 :: .retAddr z :: t)) (.retAddr z :: st) σ Q := by
  rw [xi_aload, dm_ld, lvs_get _ 5 rfl rfl]; rfl
theorem xl_istore_5 : xw S d ret code ((pc, .istore 5, len, aux) :: k) (lvs (a0 :: a1 :: a2 :: a3 :: a4 :: a5 :: t)) (.int x :: st) σ Q ↔ xw S d ret code k (lvs (a0 :: a1 :: a2 :: a3 :: kl a4 :: .int x :: t)) st σ Q := by
  rw [xi_istore]
  exact le_xw (lvs_put1 _ (by simp only [List.length_cons]; omega) rfl)
theorem xl_astore_5 : xw S d ret code ((pc, .astore 5, len, aux) :: k) (lvs (a0 :: a1 :: a2 :: a3 :: a4 :: a5 :: t)) (.ref z :: st) σ Q ↔ xw S d ret code k (lvs (a0 :: a1 :: a2 :: a3 :: kl a4 :: .ref z :: t)) st σ Q := by
  rw [xi_astore]
  exact le_xw (lvs_put1 _ (by simp only [List.length_cons]; omega) rfl)
theorem xl_lstore_5 : xw S d ret code ((pc, .lstore 5, len, aux) :: k) (lvs (a0 :: a1 :: a2 :: a3 :: a4 :: a5 :: a6 :: t)) (.long y :: st) σ Q ↔ xw S d ret code k (lvs (a0 :: a1 :: a2 :: a3 :: kl a4 :: .long y :: .null :: t)) st σ Q := by
  rw [xi_lstore]
  exact le_xw (lvs_put2 _ (by simp only [List.length_cons]; omega) rfl)
theorem xl_iinc_5 {v : Int} : xw S d ret code ((pc, .iinc 5 v, len, aux) :: k) (lvs (a0 :: a1 :: a2 :: a3 :: a4 :: .int x :: t)) st σ Q ↔ xw S d ret code k (lvs (a0 :: a1 :: a2 :: a3 :: kl a4 :: .int (x + Int32.ofInt v) :: t)) st σ Q := by
  rw [xi_iinc, lvs_get _ 5 rfl rfl]
  exact le_xw (lvs_put1 _ (by simp only [List.length_cons]; omega) rfl)
theorem xl_iload_6 : xw S d ret code ((pc, .iload 6, len, aux) :: k) (lvs (a0 :: a1 :: a2 :: a3 :: a4 :: a5 :: .int x :: t)) st σ Q ↔ xw S d ret code k (lvs (a0 :: a1 :: a2 :: a3 :: a4 :: a5 :: .int x :: t)) (.int x :: st) σ Q := by
  rw [xi_iload, dm_ld, lvs_get _ 6 rfl rfl]; rfl
theorem xl_lload_6 : xw S d ret code ((pc, .lload 6, len, aux) :: k) (lvs (a0 :: a1 :: a2 :: a3 :: a4 :: a5 :: .long y :: t)) st σ Q ↔ xw S d ret code k (lvs (a0 :: a1 :: a2 :: a3 :: a4 :: a5 :: .long y :: t)) (.long y :: st) σ Q := by
  rw [xi_lload, dm_ld, lvs_get _ 6 rfl rfl]; rfl
theorem xl_aload_6 : xw S d ret code ((pc, .aload 6, len, aux) :: k) (lvs (a0 :: a1 :: a2 :: a3 :: a4 :: a5 :: .ref z :: t)) st σ Q ↔ xw S d ret code k (lvs (a0 :: a1 :: a2 :: a3 :: a4 :: a5 :: .ref z :: t)) (.ref z :: st) σ Q := by
  rw [xi_aload, dm_ld, lvs_get _ 6 rfl rfl]; rfl
theorem xl_bload_6 : xw S d ret code ((pc, .aload 6, len, aux) :: k) (lvs (a0 :: a1 :: a2 :: a3 :: a4 :: a5 :: .retAddr z :: t)) st σ Q ↔ xw S d ret code k (lvs (a0 :: a1 :: a2 :: a3 :: a4 :: a5 :: .retAddr z :: t)) (.retAddr z :: st) σ Q := by
  rw [xi_aload, dm_ld, lvs_get _ 6 rfl rfl]; rfl
theorem xl_istore_6 : xw S d ret code ((pc, .istore 6, len, aux) :: k) (lvs (a0 :: a1 :: a2 :: a3 :: a4 :: a5 :: a6 :: t)) (.int x :: st) σ Q ↔ xw S d ret code k (lvs (a0 :: a1 :: a2 :: a3 :: a4 :: kl a5 :: .int x :: t)) st σ Q := by
  rw [xi_istore]
  exact le_xw (lvs_put1 _ (by simp only [List.length_cons]; omega) rfl)
theorem xl_astore_6 : xw S d ret code ((pc, .astore 6, len, aux) :: k) (lvs (a0 :: a1 :: a2 :: a3 :: a4 :: a5 :: a6 :: t)) (.ref z :: st) σ Q ↔ xw S d ret code k (lvs (a0 :: a1 :: a2 :: a3 :: a4 :: kl a5 :: .ref z :: t)) st σ Q := by
  rw [xi_astore]
  exact le_xw (lvs_put1 _ (by simp only [List.length_cons]; omega) rfl)
theorem xl_lstore_6 : xw S d ret code ((pc, .lstore 6, len, aux) :: k) (lvs (a0 :: a1 :: a2 :: a3 :: a4 :: a5 :: a6 :: a7 :: t)) (.long y :: st) σ Q ↔ xw S d ret code k (lvs (a0 :: a1 :: a2 :: a3 :: a4 :: kl a5 :: .long y :: .null :: t)) st σ Q := by
  rw [xi_lstore]
  exact le_xw (lvs_put2 _ (by simp only [List.length_cons]; omega) rfl)
theorem xl_iinc_6 {v : Int} : xw S d ret code ((pc, .iinc 6 v, len, aux) :: k) (lvs (a0 :: a1 :: a2 :: a3 :: a4 :: a5 :: .int x :: t)) st σ Q ↔ xw S d ret code k (lvs (a0 :: a1 :: a2 :: a3 :: a4 :: kl a5 :: .int (x + Int32.ofInt v) :: t)) st σ Q := by
  rw [xi_iinc, lvs_get _ 6 rfl rfl]
  exact le_xw (lvs_put1 _ (by simp only [List.length_cons]; omega) rfl)
theorem xl_iload_7 : xw S d ret code ((pc, .iload 7, len, aux) :: k) (lvs (a0 :: a1 :: a2 :: a3 :: a4 :: a5 :: a6 :: .int x :: t)) st σ Q ↔ xw S d ret code k (lvs (a0 :: a1 :: a2 :: a3 :: a4 :: a5 :: a6 :: .int x :: t)) (.int x :: st) σ Q := by
  rw [xi_iload, dm_ld, lvs_get _ 7 rfl rfl]; rfl
theorem xl_lload_7 : xw S d ret code ((pc, .lload 7, len, aux) :: k) (lvs (a0 :: a1 :: a2 :: a3 :: a4 :: a5 :: a6 :: .long y :: t)) st σ Q ↔ xw S d ret code k (lvs (a0 :: a1 :: a2 :: a3 :: a4 :: a5 :: a6 :: .long y :: t)) (.long y :: st) σ Q := by
  rw [xi_lload, dm_ld, lvs_get _ 7 rfl rfl]; rfl
theorem xl_aload_7 : xw S d ret code ((pc, .aload 7, len, aux) :: k) (lvs (a0 :: a1 :: a2 :: a3 :: a4 :: a5 :: a6 :: .ref z :: t)) st σ Q ↔ xw S d ret code k (lvs (a0 :: a1 :: a2 :: a3 :: a4 :: a5 :: a6 :: .ref z :: t)) (.ref z :: st) σ Q := by
  rw [xi_aload, dm_ld, lvs_get _ 7 rfl rfl]; rfl
theorem xl_bload_7 : xw S d ret code ((pc, .aload 7, len, aux) :: k) (lvs (a0 :: a1 :: a2 :: a3 :: a4 :: a5 :: a6 :: .retAddr z :: t)) st σ Q ↔ xw S d ret code k (lvs (a0 :: a1 :: a2 :: a3 :: a4 :: a5 :: a6 :: .retAddr z :: t)) (.retAddr z :: st) σ Q := by
  rw [xi_aload, dm_ld, lvs_get _ 7 rfl rfl]; rfl
theorem xl_istore_7 : xw S d ret code ((pc, .istore 7, len, aux) :: k) (lvs (a0 :: a1 :: a2 :: a3 :: a4 :: a5 :: a6 :: a7 :: t)) (.int x :: st) σ Q ↔ xw S d ret code k (lvs (a0 :: a1 :: a2 :: a3 :: a4 :: a5 :: kl a6 :: .int x :: t)) st σ Q := by
  rw [xi_istore]
  exact le_xw (lvs_put1 _ (by simp only [List.length_cons]; omega) rfl)
theorem xl_astore_7 : xw S d ret code ((pc, .astore 7, len, aux) :: k) (lvs (a0 :: a1 :: a2 :: a3 :: a4 :: a5 :: a6 :: a7 :: t)) (.ref z :: st) σ Q ↔ xw S d ret code k (lvs (a0 :: a1 :: a2 :: a3 :: a4 :: a5 :: kl a6 :: .ref z :: t)) st σ Q := by
  rw [xi_astore]
  exact le_xw (lvs_put1 _ (by simp only [List.length_cons]; omega) rfl)
theorem xl_lstore_7 : xw S d ret code ((pc, .lstore 7, len, aux) :: k) (lvs (a0 :: a1 :: a2 :: a3 :: a4 :: a5 :: a6 :: a7 :: a8 :: t)) (.long y :: st) σ Q ↔ xw S d ret code k (lvs (a0 :: a1 :: a2 :: a3 :: a4 :: a5 :: kl a6 :: .long y :: .null :: t)) st σ Q := by
  rw [xi_lstore]
  exact le_xw (lvs_put2 _ (by simp only [List.length_cons]; omega) rfl)
theorem xl_iinc_7 {v : Int} : xw S d ret code ((pc, .iinc 7 v, len, aux) :: k) (lvs (a0 :: a1 :: a2 :: a3 :: a4 :: a5 :: a6 :: .int x :: t)) st σ Q ↔ xw S d ret code k (lvs (a0 :: a1 :: a2 :: a3 :: a4 :: a5 :: kl a6 :: .int (x + Int32.ofInt v) :: t)) st σ Q := by
  rw [xi_iinc, lvs_get _ 7 rfl rfl]
  exact le_xw (lvs_put1 _ (by simp only [List.length_cons]; omega) rfl)
theorem xl_iload_8 : xw S d ret code ((pc, .iload 8, len, aux) :: k) (lvs (a0 :: a1 :: a2 :: a3 :: a4 :: a5 :: a6 :: a7 :: .int x :: t)) st σ Q ↔ xw S d ret code k (lvs (a0 :: a1 :: a2 :: a3 :: a4 :: a5 :: a6 :: a7 :: .int x :: t)) (.int x :: st) σ Q := by
  rw [xi_iload, dm_ld, lvs_get _ 8 rfl rfl]; rfl
theorem xl_lload_8 : xw S d ret code ((pc, .lload 8, len, aux) :: k) (lvs (a0 :: a1 :: a2 :: a3 :: a4 :: a5 :: a6 :: a7 :: .long y :: t)) st σ Q ↔ xw S d ret code k (lvs (a0 :: a1 :: a2 :: a3 :: a4 :: a5 :: a6 :: a7 :: .long y :: t)) (.long y :: st) σ Q := by
  rw [xi_lload, dm_ld, lvs_get _ 8 rfl rfl]; rfl
theorem xl_aload_8 : xw S d ret code ((pc, .aload 8, len, aux) :: k) (lvs (a0 :: a1 :: a2 :: a3 :: a4 :: a5 :: a6 :: a7 :: .ref z :: t)) st σ Q ↔ xw S d ret code k (lvs (a0 :: a1 :: a2 :: a3 :: a4 :: a5 :: a6 :: a7 :: .ref z :: t)) (.ref z :: st) σ Q := by
  rw [xi_aload, dm_ld, lvs_get _ 8 rfl rfl]; rfl
theorem xl_bload_8 : xw S d ret code ((pc, .aload 8, len, aux) :: k) (lvs (a0 :: a1 :: a2 :: a3 :: a4 :: a5 :: a6 :: a7 :: .retAddr z :: t)) st σ Q ↔ xw S d ret code k (lvs (a0 :: a1 :: a2 :: a3 :: a4 :: a5 :: a6 :: a7 :: .retAddr z :: t)) (.retAddr z :: st) σ Q := by
  rw [xi_aload, dm_ld, lvs_get _ 8 rfl rfl]; rfl
theorem xl_istore_8 : xw S d ret code ((pc, .istore 8, len, aux) :: k) (lvs (a0 :: a1 :: a2 :: a3 :: a4 :: a5 :: a6 :: a7 :: a8 :: t)) (.int x :: st) σ Q ↔ xw S d ret code k (lvs (a0 :: a1 :: a2 :: a3 :: a4 :: a5 :: a6 :: kl a7 :: .int x :: t)) st σ Q := by
  rw [xi_istore]
  exact le_xw (lvs_put1 _ (by simp only [List.length_cons]; omega) rfl)
theorem xl_astore_8 : xw S d ret code ((pc, .astore 8, len, aux) :: k) (lvs (a0 :: a1 :: a2 :: a3 :: a4 :: a5 :: a6 :: a7 :: a8 :: t)) (.ref z :: st) σ Q ↔ xw S d ret code k (lvs (a0 :: a1 :: a2 :: a3 :: a4 :: a5 :: a6 :: kl a7 :: .ref z :: t)) st σ Q := by
  rw [xi_astore]
  exact le_xw (lvs_put1 _ (by simp only [List.length_cons]; omega) rfl)
theorem xl_lstore_8 : xw S d ret code ((pc, .lstore 8, len, aux) :: k) (lvs (a0 :: a1 :: a2 :: a3 :: a4 :: a5 :: a6 :: a7 :: a8 :: a9 :: t)) (.long y :: st) σ Q ↔ xw S d ret code k (lvs (a0 :: a1 :: a2 :: a3 :: a4 :: a5 :: a6 :: kl a7 :: .long y :: .null :: t)) st σ Q := by
  rw [xi_lstore]
  exact le_xw (lvs_put2 _ (by simp only [List.length_cons]; omega) rfl)
theorem xl_iinc_8 {v : Int} : xw S d ret code ((pc, .iinc 8 v, len, aux) :: k) (lvs (a0 :: a1 :: a2 :: a3 :: a4 :: a5 :: a6 :: a7 :: .int x :: t)) st σ Q ↔ xw S d ret code k (lvs (a0 :: a1 :: a2 :: a3 :: a4 :: a5 :: a6 :: kl a7 :: .int (x + Int32.ofInt v) :: t)) st σ Q := by
  rw [xi_iinc, lvs_get _ 8 rfl rfl]
  exact le_xw (lvs_put1 _ (by simp only [List.length_cons]; omega) rfl)
theorem xl_iload_9 : xw S d ret code ((pc, .iload 9, len, aux) :: k) (lvs (a0 :: a1 :: a2 :: a3 :: a4 :: a5 :: a6 :: a7 :: a8 :: .int x :: t)) st σ Q ↔ xw S d ret code k (lvs (a0 :: a1 :: a2 :: a3 :: a4 :: a5 :: a6 :: a7 :: a8 :: .int x :: t)) (.int x :: st) σ Q := by
  rw [xi_iload, dm_ld, lvs_get _ 9 rfl rfl]; rfl
theorem xl_lload_9 : xw S d ret code ((pc, .lload 9, len, aux) :: k) (lvs (a0 :: a1 :: a2 :: a3 :: a4 :: a5 :: a6 :: a7 :: a8 :: .long y :: t)) st σ Q ↔ xw S d ret code k (lvs (a0 :: a1 :: a2 :: a3 :: a4 :: a5 :: a6 :: a7 :: a8 :: .long y :: t)) (.long y :: st) σ Q := by
  rw [xi_lload, dm_ld, lvs_get _ 9 rfl rfl]; rfl
theorem xl_aload_9 : xw S d ret code ((pc, .aload 9, len, aux) :: k) (lvs (a0 :: a1 :: a2 :: a3 :: a4 :: a5 :: a6 :: a7 :: a8 :: .ref z :: t)) st σ Q ↔ xw S d ret code k (lvs (a0 :: a1 :: a2 :: a3 :: a4 :: a5 :: a6 :: a7 :: a8 :: .ref z :: t)) (.ref z :: st) σ Q := by
  rw [xi_aload, dm_ld, lvs_get _ 9 rfl rfl]; rfl
theorem xl_bload_9 : xw S d ret code ((pc, .aload 9, len, aux) :: k) (lvs (a0 :: a1 :: a2 :: a3 :: a4 :: a5 :: a6 :: a7 :: a8 :: .retAddr z :: t)) st σ Q ↔ xw S d ret code k (lvs (a0 :: a1 :: a2 :: a3 :: a4 :: a5 :: a6 :: a7 :: a8 :: .retAddr z :: t)) (.retAddr z :: st) σ Q := by
  rw [xi_aload, dm_ld, lvs_get _ 9 rfl rfl]; rfl
theorem xl_istore_9 : xw S d ret code ((pc, .istore 9, len, aux) :: k) (lvs (a0 :: a1 :: a2 :: a3 :: a4 :: a5 :: a6 :: a7 :: a8 :: a9 :: t)) (.int x :: st) σ Q ↔ xw S d ret code k (lvs (a0 :: a1 :: a2 :: a3 :: a4 :: a5 :: a6 :: a7 :: kl a8 :: .int x :: t)) st σ Q := by
  rw [xi_istore]
  exact le_xw (lvs_put1 _ (by simp only [List.length_cons]; omega) rfl)
theorem xl_astore_9 : xw S d ret code ((pc, .astore 9, len, aux) :: k) (lvs (a0 :: a1 :: a2 :: a3 :: a4 :: a5 :: a6 :: a7 :: a8 :: a9 :: t)) (.ref z :: st) σ Q ↔ xw S d ret code k (lvs (a0 :: a1 :: a2 :: a3 :: a4 :: a5 :: a6 :: a7 :: kl a8 :: .ref z :: t)) st σ Q := by
  rw [xi_astore]
  exact le_xw (lvs_put1 _ (by simp only [List.length_cons]; omega) rfl)
theorem xl_lstore_9 : xw S d ret code ((pc, .lstore 9, len, aux) :: k) (lvs (a0 :: a1 :: a2 :: a3 :: a4 :: a5 :: a6 :: a7 :: a8 :: a9 :: a10 :: t)) (.long y :: st) σ Q ↔ xw S d ret code k (lvs (a0 :: a1 :: a2 :: a3 :: a4 :: a5 :: a6 :: a7 :: kl a8 :: .long y :: .null :: t)) st σ Q := by
  rw [xi_lstore]
  exact le_xw (lvs_put2 _ (by simp only [List.length_cons]; omega) rfl)
theorem xl_iinc_9 {v : Int} : xw S d ret code ((pc, .iinc 9 v, len, aux) :: k) (lvs (a0 :: a1 :: a2 :: a3 :: a4 :: a5 :: a6 :: a7 :: a8 :: .int x :: t)) st σ Q ↔ xw S d ret code k (lvs (a0 :: a1 :: a2 :: a3 :: a4 :: a5 :: a6 :: a7 :: kl a8 :: .int (x + Int32.ofInt v) :: t)) st σ Q := by
  rw [xi_iinc, lvs_get _ 9 rfl rfl]
  exact le_xw (lvs_put1 _ (by simp only [List.length_cons]; omega) rfl)
theorem xl_iload_10 : xw S d ret code ((pc, .iload 10, len, aux) :: k) (lvs (a0 :: a1 :: a2 :: a3 :: a4 :: a5 :: a6 :: a7 :: a8 :: a9 :: .int x :: t)) st σ Q ↔ xw S d ret code k (lvs (a0 :: a1 :: a2 :: a3 :: a4 :: a5 :: a6 :: a7 :: a8 :: a9 :: .int x :: t)) (.int x :: st) σ Q := by
  rw [xi_iload, dm_ld, lvs_get _ 10 rfl rfl]; rfl
theorem xl_lload_10 : xw S d ret code ((pc, .lload 10, len, aux) :: k) (lvs (a0 :: a1 :: a2 :: a3 :: a4 :: a5 :: a6 :: a7 :: a8 :: a9 :: .long y :: t)) st σ Q ↔ xw S d ret code k (lvs (a0 :: a1 :: a2 :: a3 :: a4 :: a5 :: a6 :: a7 :: a8 :: a9 :: .long y :: t)) (.long y :: st) σ Q := by
  rw [xi_lload, dm_ld, lvs_get _ 10 rfl rfl]; rfl
theorem xl_aload_10 : xw S d ret code ((pc, .aload 10, len, aux) :: k) (lvs (a0 :: a1 :: a2 :: a3 :: a4 :: a5 :: a6 :: a7 :: a8 :: a9 :: .ref z :: t)) st σ Q ↔ xw S d ret code k (lvs (a0 :: a1 :: a2 :: a3 :: a4 :: a5 :: a6 :: a7 :: a8 :: a9 :: .ref z :: t)) (.ref z :: st) σ Q := by
  rw [xi_aload, dm_ld, lvs_get _ 10 rfl rfl]; rfl
theorem xl_bload_10 : xw S d ret code ((pc, .aload 10, len, aux) :: k) (lvs (a0 :: a1 :: a2 :: a3 :: a4 :: a5 :: a6 :: a7 :: a8 :: a9 :: .retAddr z :: t)) st σ Q ↔ xw S d ret code k (lvs (a0 :: a1 :: a2 :: a3 :: a4 :: a5 :: a6 :: a7 :: a8 :: a9 :: .retAddr z :: t)) (.retAddr z :: st) σ Q := by
  rw [xi_aload, dm_ld, lvs_get _ 10 rfl rfl]; rfl
theorem xl_istore_10 : xw S d ret code ((pc, .istore 10, len, aux) :: k) (lvs (a0 :: a1 :: a2 :: a3 :: a4 :: a5 :: a6 :: a7 :: a8 :: a9 :: a10 :: t)) (.int x :: st) σ Q ↔ xw S d ret code k (lvs (a0 :: a1 :: a2 :: a3 :: a4 :: a5 :: a6 :: a7 :: a8 :: kl a9 :: .int x :: t)) st σ Q := by
  rw [xi_istore]
  exact le_xw (lvs_put1 _ (by simp only [List.length_cons]; omega) rfl)
theorem xl_astore_10 : xw S d ret code ((pc, .astore 10, len, aux) :: k) (lvs (a0 :: a1 :: a2 :: a3 :: a4 :: a5 :: a6 :: a7 :: a8 :: a9 :: a10 :: t)) (.ref z :: st) σ Q ↔ xw S d ret code k (lvs (a0 :: a1 :: a2 :: a3 :: a4 :: a5 :: a6 :: a7 :: a8 :: kl a9 :: .ref z :: t)) st σ Q := by
  rw [xi_astore]
  exact le_xw (lvs_put1 _ (by simp only [List.length_cons]; omega) rfl)
theorem xl_lstore_10 : xw S d ret code ((pc, .lstore 10, len, aux) :: k) (lvs (a0 :: a1 :: a2 :: a3 :: a4 :: a5 :: a6 :: a7 :: a8 :: a9 :: a10 :: a11 :: t)) (.long y :: st) σ Q ↔ xw S d ret code k (lvs (a0 :: a1 :: a2 :: a3 :: a4 :: a5 :: a6 :: a7 :: a8 :: kl a9 :: .long y :: .null :: t)) st σ Q := by
  rw [xi_lstore]
  exact le_xw (lvs_put2 _ (by simp only [List.length_cons]; omega) rfl)
theorem xl_iinc_10 {v : Int} : xw S d ret code ((pc, .iinc 10 v, len, aux) :: k) (lvs (a0 :: a1 :: a2 :: a3 :: a4 :: a5 :: a6 :: a7 :: a8 :: a9 :: .int x :: t)) st σ Q ↔ xw S d ret code k (lvs (a0 :: a1 :: a2 :: a3 :: a4 :: a5 :: a6 :: a7 :: a8 :: kl a9 :: .int (x + Int32.ofInt v) :: t)) st σ Q := by
  rw [xi_iinc, lvs_get _ 10 rfl rfl]
  exact le_xw (lvs_put1 _ (by simp only [List.length_cons]; omega) rfl)
theorem xl_iload_11 : xw S d ret code ((pc, .iload 11, len, aux) :: k) (lvs (a0 :: a1 :: a2 :: a3 :: a4 :: a5 :: a6 :: a7 :: a8 :: a9 :: a10 :: .int x :: t)) st σ Q ↔ xw S d ret code k (lvs (a0 :: a1 :: a2 :: a3 :: a4 :: a5 :: a6 :: a7 :: a8 :: a9 :: a10 :: .int x :: t)) (.int x :: st) σ Q := by
  rw [xi_iload, dm_ld, lvs_get _ 11 rfl rfl]; rfl
theorem xl_lload_11 : xw S d ret code ((pc, .lload 11, len, aux) :: k) (lvs (a0 :: a1 :: a2 :: a3 :: a4 :: a5 :: a6 :: a7 :: a8 :: a9 :: a10 :: .long y :: t)) st σ Q ↔ xw S d ret code k (lvs (a0 :: a1 :: a2 :: a3 :: a4 :: a5 :: a6 :: a7 :: a8 :: a9 :: a10 :: .long y :: t)) (.long y :: st) σ Q := by
  rw [xi_lload, dm_ld, lvs_get _ 11 rfl rfl]; rfl
theorem xl_aload_11 : xw S d ret code ((pc, .aload 11, len, aux) :: k) (lvs (a0 :: a1 :: a2 :: a3 :: a4 :: a5 :: a6 :: a7 :: a8 :: a9 :: a10 :: .ref z :: t)) st σ Q ↔ xw S d ret code k (lvs (a0 :: a1 :: a2 :: a3 :: a4 :: a5 :: a6 :: a7 :: a8 :: a9 :: a10 :: .ref z :: t)) (.ref z :: st) σ Q := by
  rw [xi_aload, dm_ld, lvs_get _ 11 rfl rfl]; rfl
theorem xl_bload_11 : xw S d ret code ((pc, .aload 11, len, aux) :: k) (lvs (a0 :: a1 :: a2 :: a3 :: a4 :: a5 :: a6 :: a7 :: a8 :: a9 :: a10 :: .retAddr z :: t)) st σ Q ↔ xw S d ret code k (lvs (a0 :: a1 :: a2 :: a3 :: a4 :: a5 :: a6 :: a7 :: a8 :: a9 :: a10 :: .retAddr z :: t)) (.retAddr z :: st) σ Q := by
  rw [xi_aload, dm_ld, lvs_get _ 11 rfl rfl]; rfl
theorem xl_istore_11 : xw S d ret code ((pc, .istore 11, len, aux) :: k) (lvs (a0 :: a1 :: a2 :: a3 :: a4 :: a5 :: a6 :: a7 :: a8 :: a9 :: a10 :: a11 :: t)) (.int x :: st) σ Q ↔ xw S d ret code k (lvs (a0 :: a1 :: a2 :: a3 :: a4 :: a5 :: a6 :: a7 :: a8 :: a9 :: kl a10 :: .int x :: t)) st σ Q := by
  rw [xi_istore]
  exact le_xw (lvs_put1 _ (by simp only [List.length_cons]; omega) rfl)
theorem xl_astore_11 : xw S d ret code ((pc, .astore 11, len, aux) :: k) (lvs (a0 :: a1 :: a2 :: a3 :: a4 :: a5 :: a6 :: a7 :: a8 :: a9 :: a10 :: a11 :: t)) (.ref z :: st) σ Q ↔ xw S d ret code k (lvs (a0 :: a1 :: a2 :: a3 :: a4 :: a5 :: a6 :: a7 :: a8 :: a9 :: kl a10 :: .ref z :: t)) st σ Q := by
  rw [xi_astore]
  exact le_xw (lvs_put1 _ (by simp only [List.length_cons]; omega) rfl)
theorem xl_lstore_11 : xw S d ret code ((pc, .lstore 11, len, aux) :: k) (lvs (a0 :: a1 :: a2 :: a3 :: a4 :: a5 :: a6 :: a7 :: a8 :: a9 :: a10 :: a11 :: a12 :: t)) (.long y :: st) σ Q ↔ xw S d ret code k (lvs (a0 :: a1 :: a2 :: a3 :: a4 :: a5 :: a6 :: a7 :: a8 :: a9 :: kl a10 :: .long y :: .null :: t)) st σ Q := by
  rw [xi_lstore]
  exact le_xw (lvs_put2 _ (by simp only [List.length_cons]; omega) rfl)
theorem xl_iinc_11 {v : Int} : xw S d ret code ((pc, .iinc 11 v, len, aux) :: k) (lvs (a0 :: a1 :: a2 :: a3 :: a4 :: a5 :: a6 :: a7 :: a8 :: a9 :: a10 :: .int x :: t)) st σ Q ↔ xw S d ret code k (lvs (a0 :: a1 :: a2 :: a3 :: a4 :: a5 :: a6 :: a7 :: a8 :: a9 :: kl a10 :: .int (x + Int32.ofInt v) :: t)) st σ Q := by
  rw [xi_iinc, lvs_get _ 11 rfl rfl]
  exact le_xw (lvs_put1 _ (by simp only [List.length_cons]; omega) rfl)
theorem xl_iload_12 : xw S d ret code ((pc, .iload 12, len, aux) :: k) (lvs (a0 :: a1 :: a2 :: a3 :: a4 :: a5 :: a6 :: a7 :: a8 :: a9 :: a10 :: a11 :: .int x :: t)) st σ Q ↔ xw S d ret code k (lvs (a0 :: a1 :: a2 :: a3 :: a4 :: a5 :: a6 :: a7 :: a8 :: a9 :: a10 :: a11 :: .int x :: t)) (.int x :: st) σ Q := by
  rw [xi_iload, dm_ld, lvs_get _ 12 rfl rfl]; rfl
theorem xl_lload_12 : xw S d ret code ((pc, .lload 12, len, aux) :: k) (lvs (a0 :: a1 :: a2 :: a3 :: a4 :: a5 :: a6 :: a7 :: a8 :: a9 :: a10 :: a11 :: .long y :: t)) st σ Q ↔ xw S d ret code k (lvs (a0 :: a1 :: a2 :: a3 :: a4 :: a5 :: a6 :: a7 :: a8 :: a9 :: a10 :: a11 :: .long y :: t)) (.long y :: st) σ Q := by
  rw [xi_lload, dm_ld, lvs_get _ 12 rfl rfl]; rfl
theorem xl_aload_12 : xw S d ret code ((pc, .aload 12, len, aux) :: k) (lvs (a0 :: a1 :: a2 :: a3 :: a4 :: a5 :: a6 :: a7 :: a8 :: a9 :: a10 :: a11 :: .ref z :: t)) st σ Q ↔ xw S d ret code k (lvs (a0 :: a1 :: a2 :: a3 :: a4 :: a5 :: a6 :: a7 :: a8 :: a9 :: a10 :: a11 :: .ref z :: t)) (.ref z :: st) σ Q := by
  rw [xi_aload, dm_ld, lvs_get _ 12 rfl rfl]; rfl
theorem xl_bload_12 : xw S d ret code ((pc, .aload 12, len, aux) :: k) (lvs (a0 :: a1 :: a2 :: a3 :: a4 :: a5 :: a6 :: a7 :: a8 :: a9 :: a10 :: a11 :: .retAddr z :: t)) st σ Q ↔ xw S d ret code k (lvs (a0 :: a1 :: a2 :: a3 :: a4 :: a5 :: a6 :: a7 :: a8 :: a9 :: a10 :: a11 :: .retAddr z :: t)) (.retAddr z :: st) σ Q := by
  rw [xi_aload, dm_ld, lvs_get _ 12 rfl rfl]; rfl
theorem xl_istore_12 : xw S d ret code ((pc, .istore 12, len, aux) :: k) (lvs (a0 :: a1 :: a2 :: a3 :: a4 :: a5 :: a6 :: a7 :: a8 :: a9 :: a10 :: a11 :: a12 :: t)) (.int x :: st) σ Q ↔ xw S d ret code k (lvs (a0 :: a1 :: a2 :: a3 :: a4 :: a5 :: a6 :: a7 :: a8 :: a9 :: a10 :: kl a11 :: .int x :: t)) st σ Q := by
  rw [xi_istore]
  exact le_xw (lvs_put1 _ (by simp only [List.length_cons]; omega) rfl)
theorem xl_astore_12 : xw S d ret code ((pc, .astore 12, len, aux) :: k) (lvs (a0 :: a1 :: a2 :: a3 :: a4 :: a5 :: a6 :: a7 :: a8 :: a9 :: a10 :: a11 :: a12 :: t)) (.ref z :: st) σ Q ↔ xw S d ret code k (lvs (a0 :: a1 :: a2 :: a3 :: a4 :: a5 :: a6 :: a7 :: a8 :: a9 :: a10 :: kl a11 :: .ref z :: t)) st σ Q := by
  rw [xi_astore]
  exact le_xw (lvs_put1 _ (by simp only [List.length_cons]; omega) rfl)
theorem xl_lstore_12 : xw S d ret code ((pc, .lstore 12, len, aux) :: k) (lvs (a0 :: a1 :: a2 :: a3 :: a4 :: a5 :: a6 :: a7 :: a8 :: a9 :: a10 :: a11 :: a12 :: a13 :: t)) (.long y :: st) σ Q ↔ xw S d ret code k (lvs (a0 :: a1 :: a2 :: a3 :: a4 :: a5 :: a6 :: a7 :: a8 :: a9 :: a10 :: kl a11 :: .long y :: .null :: t)) st σ Q := by
  rw [xi_lstore]
  exact le_xw (lvs_put2 _ (by simp only [List.length_cons]; omega) rfl)
theorem xl_iinc_12 {v : Int} : xw S d ret code ((pc, .iinc 12 v, len, aux) :: k) (lvs (a0 :: a1 :: a2 :: a3 :: a4 :: a5 :: a6 :: a7 :: a8 :: a9 :: a10 :: a11 :: .int x :: t)) st σ Q ↔ xw S d ret code k (lvs (a0 :: a1 :: a2 :: a3 :: a4 :: a5 :: a6 :: a7 :: a8 :: a9 :: a10 :: kl a11 :: .int (x + Int32.ofInt v) :: t)) st σ Q := by
  rw [xi_iinc, lvs_get _ 12 rfl rfl]
  exact le_xw (lvs_put1 _ (by simp only [List.length_cons]; omega) rfl)
theorem xl_iload_13 : xw S d ret code ((pc, .iload 13, len, aux) :: k) (lvs (a0 :: a1 :: a2 :: a3 :: a4 :: a5 :: a6 :: a7 :: a8 :: a9 :: a10 :: a11 :: a12 :: .int x :: t)) st σ Q ↔ xw S d ret code k (lvs (a0 :: a1 :: a2 :: a3 :: a4 :: a5 :: a6 :: a7 :: a8 :: a9 :: a10 :: a11 :: a12 :: .int x :: t)) (.int x :: st) σ Q := by
  rw [xi_iload, dm_ld, lvs_get _ 13 rfl rfl]; rfl
theorem xl_lload_13 : xw S d ret code ((pc, .lload 13, len, aux) :: k) (lvs (a0 :: a1 :: a2 :: a3 :: a4 :: a5 :: a6 :: a7 :: a8 :: a9 :: a10 :: a11 :: a12 :: .long y :: t)) st σ Q ↔ xw S d ret code k (lvs (a0 :: a1 :: a2 :: a3 :: a4 :: a5 :: a6 :: a7 :: a8 :: a9 :: a10 :: a11 :: a12 :: .long y :: t)) (.long y :: st) σ Q := by
  rw [xi_lload, dm_ld, lvs_get _ 13 rfl rfl]; rfl
theorem xl_aload_13 : xw S d ret code ((pc, .aload 13, len, aux) :: k) (lvs (a0 :: a1 :: a2 :: a3 :: a4 :: a5 :: a6 :: a7 :: a8 :: a9 :: a10 :: a11 :: a12 :: .ref z :: t)) st σ Q ↔ xw S d ret code k (lvs (a0 :: a1 :: a2 :: a3 :: a4 :: a5 :: a6 :: a7 :: a8 :: a9 :: a10 :: a11 :: a12 :: .ref z :: t)) (.ref z :: st) σ Q := by
  rw [xi_aload, dm_ld, lvs_get _ 13 rfl rfl]; rfl
theorem xl_bload_13 : xw S d ret code ((pc, .aload 13, len, aux) :: k) (lvs (a0 :: a1 :: a2 :: a3 :: a4 :: a5 :: a6 :: a7 :: a8 :: a9 :: a10 :: a11 :: a12 :: .retAddr z :: t)) st σ Q ↔ xw S d ret code k (lvs (a0 :: a1 :: a2 :: a3 :: a4 :: a5 :: a6 :: a7 :: a8 :: a9 :: a10 :: a11 :: a12 :: .retAddr z :: t)) (.retAddr z :: st) σ Q := by
  rw [xi_aload, dm_ld, lvs_get _ 13 rfl rfl]; rfl
theorem xl_istore_13 : xw S d ret code ((pc, .istore 13, len, aux) :: k) (lvs (a0 :: a1 :: a2 :: a3 :: a4 :: a5 :: a6 :: a7 :: a8 :: a9 :: a10 :: a11 :: a12 :: a13 :: t)) (.int x :: st) σ Q ↔ xw S d ret code k (lvs (a0 :: a1 :: a2 :: a3 :: a4 :: a5 :: a6 :: a7 :: a8 :: a9 :: a10 :: a11 :: kl a12 :: .int x :: t)) st σ Q := by
  rw [xi_istore]
  exact le_xw (lvs_put1 _ (by simp only [List.length_cons]; omega) rfl)
theorem xl_astore_13 : xw S d ret code ((pc, .astore 13, len, aux) :: k) (lvs (a0 :: a1 :: a2 :: a3 :: a4 :: a5 :: a6 :: a7 :: a8 :: a9 :: a10 :: a11 :: a12 :: a13 :: t)) (.ref z :: st) σ Q ↔ xw S d ret code k (lvs (a0 :: a1 :: a2 :: a3 :: a4 :: a5 :: a6 :: a7 :: a8 :: a9 :: a10 :: a11 :: kl a12 :: .ref z :: t)) st σ Q := by
  rw [xi_astore]
  exact le_xw (lvs_put1 _ (by simp only [List.length_cons]; omega) rfl)
theorem xl_lstore_13 : xw S d ret code ((pc, .lstore 13, len, aux) :: k) (lvs (a0 :: a1 :: a2 :: a3 :: a4 :: a5 :: a6 :: a7 :: a8 :: a9 :: a10 :: a11 :: a12 :: a13 :: a14 :: t)) (.long y :: st) σ Q ↔ xw S d ret code k (lvs (a0 :: a1 :: a2 :: a3 :: a4 :: a5 :: a6 :: a7 :: a8 :: a9 :: a10 :: a11 :: kl a12 :: .long y :: .null :: t)) st σ Q := by
  rw [xi_lstore]
  exact le_xw (lvs_put2 _ (by simp only [List.length_cons]; omega) rfl)
theorem xl_iinc_13 {v : Int} : xw S d ret code ((pc, .iinc 13 v, len, aux) :: k) (lvs (a0 :: a1 :: a2 :: a3 :: a4 :: a5 :: a6 :: a7 :: a8 :: a9 :: a10 :: a11 :: a12 :: .int x :: t)) st σ Q ↔ xw S d ret code k (lvs (a0 :: a1 :: a2 :: a3 :: a4 :: a5 :: a6 :: a7 :: a8 :: a9 :: a10 :: a11 :: kl a12 :: .int (x + Int32.ofInt v) :: t)) st σ Q := by
  rw [xi_iinc, lvs_get _ 13 rfl rfl]
  exact le_xw (lvs_put1 _ (by simp only [List.length_cons]; omega) rfl)
theorem xl_iload_14 : xw S d ret code ((pc, .iload 14, len, aux) :: k) (lvs (a0 :: a1 :: a2 :: a3 :: a4 :: a5 :: a6 :: a7 :: a8 :: a9 :: a10 :: a11 :: a12 :: a13 :: .int x :: t)) st σ Q ↔ xw S d ret code k (lvs (a0 :: a1 :: a2 :: a3 :: a4 :: a5 :: a6 :: a7 :: a8 :: a9 :: a10 :: a11 :: a12 :: a13 :: .int x :: t)) (.int x :: st) σ Q := by
  rw [xi_iload, dm_ld, lvs_get _ 14 rfl rfl]; rfl
theorem xl_lload_14 : xw S d ret code ((pc, .lload 14, len, aux) :: k) (lvs (a0 :: a1 :: a2 :: a3 :: a4 :: a5 :: a6 :: a7 :: a8 :: a9 :: a10 :: a11 :: a12 :: a13 :: .long y :: t)) st σ Q ↔ xw S d ret code k (lvs (a0 :: a1 :: a2 :: a3 :: a4 :: a5 :: a6 :: a7 :: a8 :: a9 :: a10 :: a11 :: a12 :: a13 :: .long y :: t)) (.long y :: st) σ Q := by
  rw [xi_lload, dm_ld, lvs_get _ 14 rfl rfl]; rfl
theorem xl_aload_14 : xw S d ret code ((pc, .aload 14, len, aux) :: k) (lvs (a0 :: a1 :: a2 :: a3 :: a4 :: a5 :: a6 :: a7 :: a8 :: a9 :: a10 :: a11 :: a12 :: a13 :: .ref z :: t)) st σ Q ↔ xw S d ret code k (lvs (a0 :: a1 :: a2 :: a3 :: a4 :: a5 :: a6 :: a7 :: a8 :: a9 :: a10 :: a11 :: a12 :: a13 :: .ref z :: t)) (.ref z :: st) σ Q := by
  rw [xi_aload, dm_ld, lvs_get _ 14 rfl rfl]; rfl
theorem xl_bload_14 : xw S d ret code ((pc, .aload 14, len, aux) :: k) (lvs (a0 :: a1 :: a2 :: a3 :: a4 :: a5 :: a6 :: a7 :: a8 :: a9 :: a10 :: a11 :: a12 :: a13 :: .retAddr z :: t)) st σ Q ↔ xw S d ret code k (lvs (a0 :: a1 :: a2 :: a3 :: a4 :: a5 :: a6 :: a7 :: a8 :: a9 :: a10 :: a11 :: a12 :: a13 :: .retAddr z :: t)) (.retAddr z :: st) σ Q := by
  rw [xi_aload, dm_ld, lvs_get _ 14 rfl rfl]; rfl
theorem xl_istore_14 : xw S d ret code ((pc, .istore 14, len, aux) :: k) (lvs (a0 :: a1 :: a2 :: a3 :: a4 :: a5 :: a6 :: a7 :: a8 :: a9 :: a10 :: a11 :: a12 :: a13 :: a14 :: t)) (.int x :: st) σ Q ↔ xw S d ret code k (lvs (a0 :: a1 :: a2 :: a3 :: a4 :: a5 :: a6 :: a7 :: a8 :: a9 :: a10 :: a11 :: a12 :: kl a13 :: .int x :: t)) st σ Q := by
  rw [xi_istore]
  exact le_xw (lvs_put1 _ (by simp only [List.length_cons]; omega) rfl)
theorem xl_astore_14 : xw S d ret code ((pc, .astore 14, len, aux) :: k) (lvs (a0 :: a1 :: a2 :: a3 :: a4 :: a5 :: a6 :: a7 :: a8 :: a9 :: a10 :: a11 :: a12 :: a13 :: a14 :: t)) (.ref z :: st) σ Q ↔ xw S d ret code k (lvs (a0 :: a1 :: a2 :: a3 :: a4 :: a5 :: a6 :: a7 :: a8 :: a9 :: a10 :: a11 :: a12 :: kl a13 :: .ref z :: t)) st σ Q := by
  rw [xi_astore]
  exact le_xw (lvs_put1 _ (by simp only [List.length_cons]; omega) rfl)
theorem xl_lstore_14 : xw S d ret code ((pc, .lstore 14, len, aux) :: k) (lvs (a0 :: a1 :: a2 :: a3 :: a4 :: a5 :: a6 :: a7 :: a8 :: a9 :: a10 :: a11 :: a12 :: a13 :: a14 :: a15 :: t)) (.long y :: st) σ Q ↔ xw S d ret code k (lvs (a0 :: a1 :: a2 :: a3 :: a4 :: a5 :: a6 :: a7 :: a8 :: a9 :: a10 :: a11 :: a12 :: kl a13 :: .long y :: .null :: t)) st σ Q := by
  rw [xi_lstore]
  exact le_xw (lvs_put2 _ (by simp only [List.length_cons]; omega) rfl)
theorem xl_iinc_14 {v : Int} : xw S d ret code ((pc, .iinc 14 v, len, aux) :: k) (lvs (a0 :: a1 :: a2 :: a3 :: a4 :: a5 :: a6 :: a7 :: a8 :: a9 :: a10 :: a11 :: a12 :: a13 :: .int x :: t)) st σ Q ↔ xw S d ret code k (lvs (a0 :: a1 :: a2 :: a3 :: a4 :: a5 :: a6 :: a7 :: a8 :: a9 :: a10 :: a11 :: a12 :: kl a13 :: .int (x + Int32.ofInt v) :: t)) st σ Q := by
  rw [xi_iinc, lvs_get _ 14 rfl rfl]
  exact le_xw (lvs_put1 _ (by simp only [List.length_cons]; omega) rfl)
end XLV
