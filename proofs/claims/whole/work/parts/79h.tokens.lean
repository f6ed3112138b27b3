/-! The tape as tokens. -/
def isLet (c : Nat) : Bool := decide (97 ≤ c ∧ c ≤ 122)
def isDig (c : Nat) : Bool := decide (48 ≤ c ∧ c ≤ 57)
def isSpc (c : Nat) : Bool := decide (c = 10 ∨ c = 32)
def isSgn (c : Nat) : Bool := decide (c = 40 ∨ c = 41 ∨ c = 59 ∨ c = 61 ∨ c = 60 ∨ c = 43 ∨ c = 45 ∨ c = 42)
def runF (P : Nat → Bool) (cs : Nat → Nat) (sz : Nat) : Nat → Nat → Nat
  | 0, p => p
  | m + 1, p => if p < sz ∧ P (cs p) = true then runF P cs sz m (p + 1) else p
def run (P : Nat → Bool) (cs : Nat → Nat) (sz p : Nat) : Nat := runF P cs sz (sz - p) p
section RUN
variable {P : Nat → Bool} {cs : Nat → Nat} {sz p : Nat}
theorem run_s (h : p < sz) (h2 : P (cs p) = true) : run P cs sz p = run P cs sz (p + 1) := by
  unfold run
  rw [show sz - p = (sz - (p + 1)) + 1 by omega]
  show (if p < sz ∧ P (cs p) = true then _ else _) = _
  rw [if_pos ⟨h, h2⟩]
theorem run_e (h : ¬ (p < sz ∧ P (cs p) = true)) : run P cs sz p = p := by
  unfold run
  cases hm : sz - p with
  | zero => rfl
  | succ m =>
    show (if p < sz ∧ P (cs p) = true then _ else _) = _
    rw [if_neg h]
theorem run_all : ∀ (m : Nat) (p : Nat), sz - p = m → p ≤ run P cs sz p ∧ (p ≤ sz → run P cs sz p ≤ sz) ∧ (∀ i, p ≤ i → i < run P cs sz p → i < sz ∧ P (cs i) = true) ∧ ¬ (run P cs sz p < sz ∧ P (cs (run P cs sz p)) = true)
  | 0, p, hm => by
    have e : run P cs sz p = p := run_e (fun z => by omega)
    rw [e]
    exact ⟨Nat.le_refl p, fun h => h, fun i h1 h2 => by omega, fun z => by omega⟩
  | m + 1, p, hm => by
    by_cases h : p < sz ∧ P (cs p) = true
    · obtain ⟨a, b, c, e⟩ := run_all m (p + 1) (by omega)
      rw [run_s h.1 h.2]
      refine ⟨by omega, fun _ => b (by omega), fun i h1 h2 => ?_, e⟩
      by_cases z : i = p
      · rw [z]; exact h
      · exact c i (by omega) h2
    · rw [run_e h]
      exact ⟨Nat.le_refl p, fun h => h, fun i h1 h2 => by omega, h⟩
theorem run_le : p ≤ run P cs sz p := (run_all _ p rfl).1
theorem run_sz (h : p ≤ sz) : run P cs sz p ≤ sz := (run_all _ p rfl).2.1 h
theorem run_in {i : Nat} (h : p ≤ i) (h2 : i < run P cs sz p) : i < sz ∧ P (cs i) = true := (run_all _ p rfl).2.2.1 i h h2
theorem run_out : ¬ (run P cs sz p < sz ∧ P (cs (run P cs sz p)) = true) := (run_all _ p rfl).2.2.2
end RUN
/-- of the token that begins at q: its end, its kind (0 end, 1 none, 2 word, 3 number, 4 sign), its letters, its number -/
def tE (cs : Nat → Nat) (sz q : Nat) : Nat := if sz ≤ q then q else if isLet (cs q) = true then run isLet cs sz q else if isDig (cs q) = true then run isDig cs sz q else q + 1
def tK (cs : Nat → Nat) (sz q : Nat) : Nat := if sz ≤ q then 0 else if isLet (cs q) = true then (if run isLet cs sz q - q ≤ 8 then 2 else 1) else if isDig (cs q) = true then (if run isDig cs sz q - q ≤ 4 then 3 else 1) else if isSgn (cs q) = true then 4 else 1
def lts (cs : Nat → Nat) (q : Nat) : Nat → List Nat
  | 0 => []
  | j + 1 => lts cs q j ++ [cs (q + j) - 96]
def dgs (cs : Nat → Nat) (q : Nat) : Nat → Nat
  | 0 => 0
  | j + 1 => dgs cs q j * 10 + (cs (q + j) - 48)
def tW (cs : Nat → Nat) (sz q : Nat) : List Nat := lts cs q (run isLet cs sz q - q)
def tN (cs : Nat → Nat) (sz q : Nat) : Nat := dgs cs q (run isDig cs sz q - q)
/-- where the tokens begin -/
def sP (cs : Nat → Nat) (sz : Nat) : Nat → Nat
  | 0 => run isSpc cs sz 0
  | k + 1 => run isSpc cs sz (tE cs sz (sP cs sz k))
theorem tE_le {cs : Nat → Nat} {sz q : Nat} (h : q ≤ sz) : q ≤ tE cs sz q ∧ tE cs sz q ≤ sz := by
  unfold tE
  by_cases h1 : sz ≤ q
  · rw [if_pos h1]; omega
  · rw [if_neg h1]
    split
    · exact ⟨run_le, run_sz h⟩
    · split
      · exact ⟨run_le, run_sz h⟩
      · omega
theorem tE_lt {cs : Nat → Nat} {sz q : Nat} (h : q < sz) : q < tE cs sz q := by
  unfold tE
  rw [if_neg (by omega)]
  split
  · rename_i h2; rw [run_s h h2]; exact Nat.lt_of_lt_of_le (Nat.lt_succ_self q) run_le
  · split
    · rename_i h2; rw [run_s h h2]; exact Nat.lt_of_lt_of_le (Nat.lt_succ_self q) run_le
    · omega
theorem sP_le (cs : Nat → Nat) (sz : Nat) : ∀ k, sP cs sz k ≤ sz
  | 0 => run_sz (Nat.zero_le sz)
  | k + 1 => run_sz (tE_le (sP_le cs sz k)).2
theorem sP_end {cs : Nat → Nat} {sz k : Nat} (h : sP cs sz k = sz) : sP cs sz (k + 1) = sz := by
  have e : tE cs sz (sP cs sz k) = sz := by unfold tE; rw [if_pos (by omega)]; exact h
  show run isSpc cs sz (tE cs sz (sP cs sz k)) = sz
  rw [e]
  exact run_e (fun z => by omega)
/-- the tokens are no more than the signs -/
theorem sP_ge (cs : Nat → Nat) (sz : Nat) : ∀ k, sP cs sz k < sz → k ≤ sP cs sz k
  | 0, _ => Nat.zero_le _
  | k + 1, h => by
    have hk : sP cs sz k < sz := by
      have := sP_le cs sz k
      rcases Nat.lt_or_ge (sP cs sz k) sz with y | y
      · exact y
      · rw [sP_end (by omega)] at h; omega
    have h1 := sP_ge cs sz k hk
    have h2 := tE_lt (cs := cs) hk
    have h3 : tE cs sz (sP cs sz k) ≤ sP cs sz (k + 1) := run_le
    omega
theorem lts_len (cs : Nat → Nat) (q : Nat) : ∀ j, (lts cs q j).length = j
  | 0 => rfl
  | j + 1 => by unfold lts; rw [List.length_append, lts_len cs q j]; rfl
theorem lts_in {cs : Nat → Nat} {q : Nat} : ∀ j, (∀ i, i < j → isLet (cs (q + i)) = true) → ∀ c ∈ lts cs q j, 1 ≤ c ∧ c ≤ 26
  | 0, _, c, hc => by cases hc
  | j + 1, h, c, hc => by
    unfold lts at hc
    rw [List.mem_append] at hc
    rcases hc with y | y
    · exact lts_in j (fun i hi => h i (by omega)) c y
    · have := h j (by omega)
      unfold isLet at this
      have := of_decide_eq_true this
      rw [List.mem_singleton] at y
      omega
theorem tW_ok {cs : Nat → Nat} {sz q : Nat} (h : tK cs sz q = 2) : okW (tW cs sz q) ∧ q < sz ∧ isLet (cs q) = true ∧ tE cs sz q = run isLet cs sz q := by
  unfold tK at h
  by_cases h1 : sz ≤ q
  · rw [if_pos h1] at h; cases h
  · rw [if_neg h1] at h
    by_cases h2 : isLet (cs q) = true
    · rw [if_pos h2] at h
      by_cases h3 : run isLet cs sz q - q ≤ 8
      · have h4 : q < run isLet cs sz q := by rw [run_s (by omega) h2]; exact Nat.lt_of_lt_of_le (Nat.lt_succ_self q) run_le
        refine ⟨⟨by unfold tW; rw [lts_len]; omega, by unfold tW; rw [lts_len]; omega, ?_⟩, by omega, h2, by unfold tE; rw [if_neg h1, if_pos h2]⟩
        exact lts_in _ (fun i hi => (run_in (P := isLet) (cs := cs) (sz := sz) (p := q) (by omega) (by omega)).2)
      · rw [if_neg h3] at h; cases h
    · rw [if_neg h2] at h
      split at h
      · split at h <;> cases h
      · split at h <;> cases h
theorem dgs_lt {cs : Nat → Nat} {q : Nat} : ∀ j, (∀ i, i < j → isDig (cs (q + i)) = true) → dgs cs q j < 10 ^ j
  | 0, _ => Nat.one_pos
  | j + 1, h => by
    have h1 := dgs_lt j (fun i hi => h i (by omega))
    have h2 := h j (by omega)
    unfold isDig at h2
    have h2 := of_decide_eq_true h2
    unfold dgs
    rw [Nat.pow_succ]
    omega
/-! Words in two bases. -/
def gB (B : Nat) : List Nat → Nat
  | [] => 0
  | c :: t => gB B t * B + c
theorem gB_inj {B : Nat} : ∀ (u w : List Nat), (∀ c ∈ u, 1 ≤ c ∧ c < B) → (∀ c ∈ w, 1 ≤ c ∧ c < B) → gB B u = gB B w → u = w
  | [], [], _, _, _ => rfl
  | [], c :: t, _, h, e => by
    have := h c (List.mem_cons_self ..)
    unfold gB at e
    omega
  | c :: t, [], h, _, e => by
    have := h c (List.mem_cons_self ..)
    unfold gB at e
    omega
  | c :: t, c' :: t', h, h', e => by
    have h1 := h c (List.mem_cons_self ..)
    have h2 := h' c' (List.mem_cons_self ..)
    have e : gB B t * B + c = gB B t' * B + c' := e
    have em : (gB B t * B + c) % B = (gB B t' * B + c') % B := by rw [e]
    rw [Nat.mul_comm, Nat.mul_add_mod, Nat.mod_eq_of_lt h1.2, Nat.mul_comm, Nat.mul_add_mod, Nat.mod_eq_of_lt h2.2] at em
    subst em
    have eq : gB B t = gB B t' := Nat.eq_of_mul_eq_mul_right (show 0 < B by omega) (by omega)
    rw [gB_inj t t' (fun x hx => h x (List.mem_cons_of_mem _ hx)) (fun x hx => h' x (List.mem_cons_of_mem _ hx)) eq]
theorem gB_lt {B : Nat} : ∀ (u : List Nat), (∀ c ∈ u, c < B) → gB B u < B ^ u.length
  | [], _ => Nat.one_pos
  | c :: t, h => by
    have h1 := h c (List.mem_cons_self ..)
    have h2 := gB_lt t (fun x hx => h x (List.mem_cons_of_mem _ hx))
    show gB B t * B + c < B ^ (t.length + 1)
    rw [Nat.pow_succ]
    have : (gB B t + 1) * B ≤ B ^ t.length * B := Nat.mul_le_mul_right B h2
    rw [Nat.add_mul] at this
    omega
theorem fold_gB (B : Nat) (l : List Nat) : l.foldl (fun a c => a * B + c) 0 = gB B l.reverse := by
  have e : ∀ u : List Nat, gB B u = u.foldr (fun c a => a * B + c) 0 := fun u => by
    induction u with
    | nil => rfl
    | cons c t ih => show gB B t * B + c = _; rw [ih]; rfl
  rw [e, List.foldr_reverse]
theorem eB_inj {B : Nat} (hB : 27 ≤ B) (hB2 : B ≤ 37) {u w : List Nat} (hu : okW u) (hw : okW w) (e : Int64.ofNat (u.foldl (fun a c => a * B + c) 0) = Int64.ofNat (w.foldl (fun a c => a * B + c) 0)) : u = w := by
  have bd : ∀ l : List Nat, okW l → (∀ c ∈ l.reverse, 1 ≤ c ∧ c < B) ∧ l.foldl (fun a c => a * B + c) 0 < 2 ^ 63 := fun l hl => by
    have h1 : ∀ c ∈ l.reverse, 1 ≤ c ∧ c < B := fun c hc => by
      have := hl.2.2 c (List.mem_reverse.mp hc)
      omega
    refine ⟨h1, ?_⟩
    rw [fold_gB]
    refine Nat.lt_of_lt_of_le (gB_lt l.reverse (fun c hc => (h1 c hc).2)) ?_
    rw [List.length_reverse]
    refine Nat.le_trans (Nat.pow_le_pow_left hB2 _) (Nat.le_trans (Nat.pow_le_pow_right (by decide) hl.2.1) (by decide))
  have e2 := congrArg Int64.toInt e
  rw [Int64.toInt_ofNat_of_lt (bd u hu).2, Int64.toInt_ofNat_of_lt (bd w hw).2] at e2
  have e3 : u.foldl (fun a c => a * B + c) 0 = w.foldl (fun a c => a * B + c) 0 := by omega
  rw [fold_gB, fold_gB] at e3
  have := gB_inj _ _ (bd u hu).1 (bd w hw).1 e3
  simpa using congrArg List.reverse this
theorem e32_inj {u w : List Nat} (hu : okW u) (hw : okW w) (e : e32 u = e32 w) : u = w := eB_inj (by decide) (by decide) hu hw e
theorem e37_inj {u w : List Nat} (hu : okW u) (hw : okW w) (e : e37 u = e37 w) : u = w := eB_inj (by decide) (by decide) hu hw e
/-- the words as they are spelled -/
def sps : List (List Nat) := [[18, 15, 15, 13], [19, 20, 1, 9, 18, 19], [14, 15, 9, 19, 5], [2, 1, 19, 5], [20, 5, 14, 1, 14, 20], [18, 5, 19, 20], [3, 1, 12, 13], [3, 15, 9, 14, 19], [9, 14], [12, 15, 22, 5, 19], [5, 18, 18, 1, 14, 4], [15, 16, 5, 14, 19], [20, 1, 11, 5, 19], [1, 4, 4, 19], [3, 15, 6, 6, 5, 5], [12, 1, 19, 20, 19], [5, 22, 5, 18, 25], [4, 21, 5], [23, 9, 19, 8], [3, 12, 9, 13, 2], [6, 18, 9, 7, 8, 20], [4, 18, 9, 14, 11], [13, 9, 14, 21, 20, 5, 19], [14, 15, 15, 14], [13, 15, 22, 5], [16, 12, 1, 9, 14], [13, 15, 14, 11], [18, 21, 14, 14, 5, 18], [19, 9, 3, 11], [14, 15, 20], [1, 14, 4], [15, 18], [2, 5, 1, 20, 19], [6, 12, 15, 15, 18], [11, 9, 14, 4], [19, 20, 5, 16, 19], [12, 15, 21, 4]]
def spO (j : Nat) : List Nat := sps.getD j []
theorem sp_codes : ∀ j, j < 37 → okW (spO j) ∧ dm_codes.getD j 0 = e32 (spO j) ∧ wrd37.getD j 0 = e37 (spO j) := by
  have h : ∀ j : Fin 37, (1 ≤ (spO j).length ∧ (spO j).length ≤ 8 ∧ ∀ c ∈ spO j, 1 ≤ c ∧ c ≤ 26) ∧ dm_codes.getD j 0 = e32 (spO j) ∧ wrd37.getD j 0 = e37 (spO j) := by decide +kernel
  exact fun j hj => h ⟨j, hj⟩
/-- which word it is: 37, if none -/
def wIx (l : List Nat) : Nat := sps.findIdx (fun w => w == l)
theorem wIx_le (l : List Nat) : wIx l ≤ 37 := List.findIdx_le_length
theorem sp_dup : ∀ i j, i < 37 → j < 37 → spO i = spO j → i = j := by
  have h : ∀ i j : Fin 37, spO i = spO j → i.val = j.val := by decide +kernel
  exact fun i j hi hj e => h ⟨i, hi⟩ ⟨j, hj⟩ e
theorem wIx_sp {l : List Nat} (h : wIx l < 37) : l = spO (wIx l) := by
  have := List.findIdx_getElem (xs := sps) (p := fun w => w == l) (w := h)
  have e : spO (wIx l) = sps[wIx l]'h := by unfold spO; rw [List.getD_eq_getElem?_getD, List.getElem?_eq_getElem h]; rfl
  rw [e]
  exact (eq_of_beq this).symm
theorem wIx_iff {l : List Nat} {j : Nat} (hj : j < 37) : wIx l = j ↔ l = spO j := by
  constructor
  · intro h
    rw [← h]
    exact wIx_sp (by omega)
  · intro h
    have hlt : wIx l < 37 := by
      refine List.findIdx_lt_length_of_exists ⟨spO j, ?_, by rw [h]; exact beq_self_eq_true _⟩
      unfold spO
      rw [List.getD_eq_getElem?_getD, List.getElem?_eq_getElem (show j < sps.length from hj)]
      exact List.getElem_mem _
    refine sp_dup _ _ hlt hj ?_
    rw [← wIx_sp hlt, h]
theorem wd32 {l : List Nat} (hl : okW l) {j : Nat} (hj : j < 37) : dm_codes.getD j 0 = e32 l ↔ wIx l = j := by
  rw [wIx_iff hj, (sp_codes j hj).2.1]
  exact ⟨fun z => e32_inj hl (sp_codes j hj).1 z.symm, fun z => by rw [z]⟩
theorem wd37 {l : List Nat} (hl : okW l) {j : Nat} (hj : j < 37) : e37 l = wrd37.getD j 0 ↔ wIx l = j := by
  rw [wIx_iff hj, (sp_codes j hj).2.2]
  exact ⟨fun z => e37_inj hl (sp_codes j hj).1 z, fun z => by rw [z]⟩
