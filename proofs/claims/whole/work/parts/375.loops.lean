/-! Locals by what is looked up: for loops. -/
def dm_nl (ls : dm_Lv) : Bool := ls.all (fun q => !(q.2.category == 2))
theorem xg_pe {ls : dm_Lv} {i : Nat} {v : Value} : dm_get (dm_put1 ls i v) i = some v := by simp [dm_get, dm_put1]
theorem xg_pn {ls : dm_Lv} {i j : Nat} {v : Value} (h : dm_nl ls = true) (hij : (j == i) = false) : dm_get (dm_put1 ls i v) j = dm_get ls j := by
  have hji : ¬ j = i := by simpa using hij
  have h9 : ls.filter (fun q => !(q.1 == i) && !(q.1 + 1 == i && q.2.category == 2)) = ls.filter (fun q => !(q.1 == i)) := by
    refine List.filter_congr fun q hq => ?_
    have h1 := List.all_eq_true.mp h q hq
    have h2 : (q.2.category == 2) = false := by simpa using h1
    rw [h2]; simp
  unfold dm_put1 dm_get
  rw [h9, List.find?_cons]
  have h8 : ((i == j) : Bool) = false := by simp; exact fun z => hji z.symm
  simp only [h8]
  congr 1
  induction ls with
  | nil => rfl
  | cons a t ih =>
    have ht : dm_nl t = true := by simp only [dm_nl, List.all_cons, Bool.and_eq_true] at h; exact h.2
    have ht9 : t.filter (fun q => !(q.1 == i) && !(q.1 + 1 == i && q.2.category == 2)) = t.filter (fun q => !(q.1 == i)) := by
      refine List.filter_congr fun q hq => ?_
      have h1 := List.all_eq_true.mp ht q hq
      have h2 : (q.2.category == 2) = false := by simpa using h1
      rw [h2]; simp
    have ih := ih ht ht9
    by_cases e : a.1 = i
    · have e1 : (a.1 == j) = false := by simp; exact fun z => hji (z.symm.trans e)
      rw [List.filter_cons, List.find?_cons, e1]
      simp only [e, beq_self_eq_true, Bool.not_true]
      exact ih
    · have e2 : (a.1 == i) = false := by simp [e]
      rw [List.filter_cons, e2]
      simp only [Bool.not_false, if_true]
      rw [List.find?_cons, List.find?_cons]
      cases a.1 == j
      · exact ih
      · rfl
theorem xg_nlI {ls : dm_Lv} {i : Nat} {x : Int32} (h : dm_nl ls = true) : dm_nl (dm_put1 ls i (.int x)) = true := by
  simp only [dm_nl, dm_put1, List.all_cons, Bool.and_eq_true]
  refine ⟨rfl, List.all_eq_true.mpr fun q hq => ?_⟩
  exact List.all_eq_true.mp h q (List.mem_filter.mp hq).1
theorem xg_nlR {ls : dm_Lv} {i : Nat} {x : Nat} (h : dm_nl ls = true) : dm_nl (dm_put1 ls i (.ref x)) = true := by
  simp only [dm_nl, dm_put1, List.all_cons, Bool.and_eq_true]
  refine ⟨rfl, List.all_eq_true.mpr fun q hq => ?_⟩
  exact List.all_eq_true.mp h q (List.mem_filter.mp hq).1
theorem xr_rng (t N : Int32) : (if t < 0 then (0 : Int32) else if N ≤ t then 0 else 1) = if 0 ≤ t ∧ t < N then 1 else 0 := by
  by_cases h1 : t < 0
  · rw [if_pos h1, if_neg (fun z => absurd h1 (Int32.not_lt.mpr z.1))]
  · by_cases h2 : N ≤ t
    · rw [if_neg h1, if_pos h2, if_neg (fun z => absurd h2 (Int32.not_le.mpr z.2))]
    · rw [if_neg h1, if_neg h2, if_pos ⟨Int32.not_lt.mp h1, Int32.not_le.mp h2⟩]
theorem xwt_def {st : List Value} : dm_wait st = true ↔ (st.map fun v => v.category).sum ≤ 8 := ⟨Nat.le_of_ble_eq_true, Nat.ble_eq_true_of_le⟩
