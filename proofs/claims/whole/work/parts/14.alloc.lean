/-! New cells. -/
theorem dm_dflt {ci : Nat} {q : vw_C} (h : dm_cl[ci]? = some q) : ∀ k, k < q.2.2 → defaultValue (dm_ty ci k) = (match dm_fk (dm_ty ci k) with
    | 0 => .int 0
    | 1 => .long 0
    | _ => .null) := by
  match ci, h with
  | 0, h => cases h; decide +kernel
  | 1, h => cases h; decide +kernel
  | 2, h => cases h; decide +kernel
  | 3, h => cases h; decide +kernel
  | 4, h => cases h; decide +kernel
  | 5, h => cases h; decide +kernel
  | 6, h => cases h; decide +kernel
  | 7, h => cases h; decide +kernel
  | 8, h => cases h; decide +kernel
  | 9, h => cases h; decide +kernel
  | 10, h => cases h; decide +kernel
  | 11, h => cases h; decide +kernel
  | n + 12, h => simp [dm_cl] at h
section DMN
variable {p : Program} {l : Launch} {e : Env} {R : Room} {s : State} {m : MethodId} {args : Array Value} {below : List Frame} {meth : Method} {c : Code} {H : Heap} {locs : List Loc} {cells slots : Nat} {Q : State → Prop}
variable {cc : ByteArray} {own : String} {nL : Nat} {S : dm_Sc} {base : Nat} {D : va_G} {ext : Nat → Nat} {cA : Nat → ClassId} {σ σ' : dm_St} {ls ls' : dm_Lv} {st st' : List Value} {lsA : Array Slot} {pc c0 s0 : Nat}
theorem dm_Wsz {g : JFrame} (h : H.size ≤ s.heap.size + cells → W p l e R s m args below meth c H locs cells slots Q g) : W p l e R s m args below meth c H locs cells slots Q g :=
  fun T hT X => h (by rw [← hT]; exact X.heapSize) T hT X
abbrev dm_cN (cA : Nat → ClassId) (n : Nat) (cN : ClassId) : Nat → ClassId := fun r => if r = n then cN else cA r
theorem dm_ce_old {x y : dm_Sh} {cN : ClassId} {r : Nat} (h : r < σ.1.length) : dm_ce base ext (dm_cN cA σ.1.length cN) (dm_push σ x) r y = dm_ce base ext cA σ r y := by
  have hne : r ≠ σ.1.length := Nat.ne_of_lt h
  have h0 : dm_ce base ext (dm_cN cA σ.1.length cN) (dm_push σ x) r y = dm_ce base ext (dm_cN cA σ.1.length cN) σ r y := dm_ce_eq (dm_row_ne hne) (dm_row_ne hne) (dm_row_ne hne) y
  rw [h0]
  cases y with
  | inl ci => rfl
  | inr y => obtain ⟨t, n⟩ := y; simp only [dm_ce, dm_cN, if_neg hne]
theorem dm_ws_push (x : dm_Sh) (cN : ClassId) : dm_ws base ext (dm_cN cA σ.1.length cN) (dm_push σ x) = dm_ws base ext cA σ ++ [(base + σ.1.length, dm_ce base ext (dm_cN cA σ.1.length cN) (dm_push σ x) σ.1.length x)] := by
  refine List.ext_getElem? fun i => ?_
  rw [List.getElem?_append, dm_ws_len]
  simp only [dm_ws, List.getElem?_mapIdx]
  show ((σ.1 ++ [x])[i]?).map _ = _
  rw [List.getElem?_append]
  by_cases hi : i < σ.1.length
  · rw [if_pos hi, if_pos hi]
    cases hq : σ.1[i]? with
    | none => rfl
    | some y => simp only [Option.map_some]; rw [dm_ce_old hi]
  · rw [if_neg hi, if_neg hi]
    by_cases hj : i = σ.1.length
    · subst hj
      simp
    · have h1 : 1 ≤ i - σ.1.length := by omega
      rw [List.getElem?_eq_none (by simp; omega), List.getElem?_eq_none (by simp; omega)]
      rfl
theorem dm_alloc {x : dm_Sh} {q : Nat} {cN : ClassId} {E : va_E} {H1 : Heap} (hsz : s.heap.size ≤ base + c0) (hA : dm_At s nL base D ext c0 s0 cA σ ls H locs cells slots lsA) (hg : σ.2.1.1 = 0) (hE : dm_ce base ext (dm_cN cA σ.1.length cN) (dm_push σ x) σ.1.length x = E)
    (hP1 : va_P D dm_cl (dm_ws base ext cA σ ++ [(q, E)]) H1) (hD1 : va_D (dm_A base) (dm_ws base ext cA σ ++ [(q, E)])) (hS1 : va_S (dm_A base) s.heap H1 locs) (hz : H1.size ≤ s.heap.size + (cells + 1)) (harr : ∀ t n, x = .inr (t, n) → ArrOfT s cN (dm_at t) ∧ va_RA s cN (dm_at t)) :
    q = base + σ.1.length ∧ dm_At s nL base D ext c0 s0 (dm_cN cA σ.1.length cN) (dm_push σ x) ls H1 locs (cells + 1) (slots + dm_sz x) lsA := by
  have hlast : (dm_ws base ext cA σ ++ [(q, E)])[σ.1.length]? = some (q, E) := by
    rw [List.getElem?_append_right (by rw [dm_ws_len]; exact Nat.le_refl _), dm_ws_len]
    show ([(q, E)] : va_W)[σ.1.length - σ.1.length]? = _
    rw [Nat.sub_self]; rfl
  have h1 : q < H1.size := (hP1 _ _ hlast).lt
  have h2 : base ≤ q := hD1.2 _ _ hlast
  have hc := hA.2.2.2.1
  have hcost : dm_cost σ = σ.1.length := by simp only [dm_cost, hg, Nat.add_zero]
  have h3 : base + σ.1.length ≤ q := by
    rcases Nat.lt_or_ge q (base + σ.1.length) with h | h
    · exfalso
      have hi : q - base < σ.1.length := by omega
      obtain ⟨y, hy⟩ : ∃ y, σ.1[q - base]? = some y := ⟨_, List.getElem?_eq_getElem hi⟩
      have h9 := dm_ws_at (base := base) (ext := ext) (cA := cA) (σ := σ) hy
      have h8 : (dm_ws base ext cA σ ++ [(q, E)])[q - base]? = some (base + (q - base), dm_ce base ext cA σ (q - base) y) := by
        rw [List.getElem?_append_left (by rw [dm_ws_len]; exact hi)]; exact h9
      have := hD1.1 _ _ _ _ h8 hlast (by show base + (q - base) = q; omega)
      omega
    · exact h
  have hq : q = base + σ.1.length := by omega
  refine ⟨hq, ⟨?_, ?_⟩, hS1, hA.2.2.1, ?_, ?_⟩
  · rw [dm_ws_push, hE, ← hq]
    exact hP1
  · intro r t n hr
    have hr' : (σ.1 ++ [x])[r]? = some (.inr (t, n)) := hr
    rw [List.getElem?_append] at hr'
    by_cases hi : r < σ.1.length
    · rw [if_pos hi] at hr'
      have := hA.1.2 r t n hr'
      simp only [dm_cN, if_neg (Nat.ne_of_lt hi)]
      exact this
    · rw [if_neg hi] at hr'
      have hr0 : r - σ.1.length < 1 := (List.getElem?_eq_some_iff.mp hr').1
      have hr1 : r = σ.1.length := by omega
      subst hr1
      rw [Nat.sub_self] at hr'
      simp only [dm_cN, if_true]
      exact harr t n (Option.some.inj hr')
  · show cells + 1 + c0 = dm_cost (dm_push σ x)
    simp only [dm_cost, dm_push, List.length_append, List.length_cons, List.length_nil] at hc ⊢
    omega
  · have hs := hA.2.2.2.2
    show slots + dm_sz x + s0 = dm_slo (dm_push σ x)
    simp only [dm_slo, dm_push, List.map_append, List.sum_append, List.map_cons, List.map_nil, List.sum_cons, List.sum_nil] at hs ⊢
    omega
theorem dm_g_new {ix : Nat} {ci : Int} {w : Int} {q : vw_C} (Cx : dm_Cx p s m args c cc own nL S base D ext c0) (hcl : dm_cl[ci.toNat]? = some q) (hlk : dm_tx (w.toNat) = some (.classLink own ix q.1)) (hdg : decode cc pc = .ok (.new ix, 3)) (h : dm_new ls st σ (.inl ci.toNat) = some (ls', st', σ')) (hRc : dm_cost σ' ≤ c0 + R.cells) (hRs : dm_slo σ' ≤ s0 + R.slots) (kk : dm_Go p l e R s m args below meth c Q nL base D ext c0 s0 (pc + 3) ls' st' σ') : dm_Go p l e R s m args below meth c Q nL base D ext c0 s0 pc ls st σ := by
  intro cA H locs cells slots lsA hA
  obtain ⟨hx, hb, hml, hown, hts, hK, hsz⟩ := Cx
  unfold dm_new at h
  split at h
  · rename_i hg
    cases h
    obtain ⟨hnf, hty, hnm, hin, hins, hini⟩ := dm_class hcl
    have hc := hA.2.2.2.1
    have hs := hA.2.2.2.2
    have e1 : dm_cost (dm_push σ (.inl ci.toNat)) = dm_cost σ + 1 := by simp only [dm_cost, dm_push, List.length_append, List.length_cons, List.length_nil]; omega
    have e2 : dm_slo (dm_push σ (.inl ci.toNat)) = dm_slo σ + q.2.2 := by
      simp only [dm_slo, dm_push, List.map_append, List.sum_append, List.map_cons, List.map_nil, List.sum_cons, List.sum_nil, dm_sz, hnf]; omega
    refine va_new (fs := (List.range (dm_nf ci.toNat)).map (fun k => dm_cv base ext (dm_fv (dm_push σ (.inl ci.toNat)) σ.1.length ci.toNat k))) hx hb hts hin (dm_ty ci.toNat) hty hown (dm_tb hts hlk rfl) (hts _ hins) (hts _ hini) hK.2.1 hA.1.1 (dm_D base ext cA σ) hA.2.1 (fun q hq => Nat.le_trans hK.1 hq) hcl (fun j hj => ?_) (by omega) (by omega) hdg (fun q1 H1 hP1 hD1 hS1 => dm_Wsz (fun hz => ?_))
    · rw [dm_dflt hcl j hj]
      simp only [vp_V, List.getD_eq_getElem?_getD]
      rw [dm_fs_at (by rw [hnf]; exact hj)]
      simp only [Option.getD_some, dm_fv, dm_I, dm_L, dm_R, dm_push, dm_row_eq]
      generalize dm_fk (dm_ty ci.toNat j) = kd
      match kd with
      | 0 => rfl
      | 1 => rfl
      | n + 2 => rfl
    · obtain ⟨hq1, hA1⟩ := dm_alloc (x := .inl ci.toNat) (cN := 0) hsz hA hg rfl hP1 hD1 hS1 hz (fun t n h => by cases h)
      subst hq1
      have h9 := kk _ H1 locs _ _ lsA hA1
      rw [show dm_sz (.inl ci.toNat) = q.2.2 from hnf] at h9
      exact h9
  · cases h
theorem dm_clamp {n : Int32} (h : n ≤ 4000) : n.toNatClampNeg ≤ 4000 := by
  by_cases h0 : n < 0
  · have : n.toNatClampNeg = 0 := by
      have h1 : n.toInt < 0 := by
        have := Int32.lt_iff_toInt_lt.mp h0
        simpa using this
      simp only [Int32.toNatClampNeg]
      omega
    omega
  · obtain ⟨j, hj, rfl⟩ := nI_of (x := n) h0
    rw [nI_clamp hj]
    exact (nI_leI hj (by decide)).mp (show nI j ≤ nI 4000 from h)
theorem dm_newa_facts {t : Nat} (h : dm_newa ls st σ t = some (ls', st', σ')) : ∃ (n : Int32) (st1 : List Value), st = .int n :: st1 ∧ ¬ n < 0 ∧ n.toNatClampNeg ≤ 4000 ∧ σ.2.1.1 = 0 ∧ ls' = ls ∧ st' = .ref σ.1.length :: st1 ∧ σ' = dm_push σ (.inr (t, n.toNatClampNeg)) := by
  unfold dm_newa at h
  split at h
  · rename_i n st1
    split at h
    · rename_i hc
      unfold dm_new at h
      rw [if_pos hc.2.2] at h
      cases h
      exact ⟨n, st1, rfl, Int32.not_lt.mpr hc.1, dm_clamp hc.2.1, hc.2.2, rfl, rfl, rfl⟩
    · cases h
  · cases h
theorem dm_push_cost (x : dm_Sh) : dm_cost (dm_push σ x) = dm_cost σ + 1 ∧ dm_slo (dm_push σ x) = dm_slo σ + dm_sz x := by
  constructor
  · simp only [dm_cost, dm_push, List.length_append, List.length_cons, List.length_nil]; omega
  · simp only [dm_slo, dm_push, List.map_append, List.sum_append, List.map_cons, List.map_nil, List.sum_cons, List.sum_nil]; omega
theorem dm_g_newa {t : Nat} {aty : ArrayType} (Cx : dm_Cx p s m args c cc own nL S base D ext c0) (ht : (t = 0 ∧ aty = .int) ∨ (t = 1 ∧ aty = .long) ∨ (t = 2 ∧ aty = .char) ∨ (t = 3 ∧ aty = .boolean)) (hdg : decode cc pc = .ok (.newarray aty, 2)) (h : dm_newa ls st σ t = some (ls', st', σ')) (hRc : dm_cost σ' ≤ c0 + R.cells) (hRs : dm_slo σ' ≤ s0 + R.slots) (kk : dm_Go p l e R s m args below meth c Q nL base D ext c0 s0 (pc + 2) ls' st' σ') : dm_Go p l e R s m args below meth c Q nL base D ext c0 s0 pc ls st σ := by
  intro cA H locs cells slots lsA hA
  obtain ⟨hx, hb, hml, hown, hts, hK, hsz⟩ := Cx
  obtain ⟨n, st1, rfl, hn, h4, hg, rfl, rfl, rfl⟩ := dm_newa_facts h
  have hc := hA.2.2.2.1
  have hs := hA.2.2.2.2
  obtain ⟨e1, e2⟩ := dm_push_cost (σ := σ) (.inr (t, n.toNatClampNeg))
  have e3 : dm_sz (.inr (t, n.toNatClampNeg)) = n.toNatClampNeg := rfl
  have key : ∀ (q : Nat) (cN : ClassId) (H1 : Heap) (E : va_E), dm_ce base ext (dm_cN cA σ.1.length cN) (dm_push σ (.inr (t, n.toNatClampNeg))) σ.1.length (.inr (t, n.toNatClampNeg)) = E → va_K D dm_cl ([] ++ [(cN, dm_at t)]) s → va_P D dm_cl (dm_ws base ext cA σ ++ [(q, E)]) H1 → va_D (dm_A base) (dm_ws base ext cA σ ++ [(q, E)]) → va_S (dm_A base) s.heap H1 locs → W p l e R s m args below meth c H1 locs (cells + 1) (slots + n.toNatClampNeg) Q (F0 m (pc + 2) lsA (.ref q :: dm_sm base ext st1)) := by
    intro q cN H1 E hE hK1 hP1 hD1 hS1
    refine dm_Wsz (fun hz => ?_)
    obtain ⟨hq1, hA1⟩ := dm_alloc (x := .inr (t, n.toNatClampNeg)) (cN := cN) hsz hA hg hE hP1 hD1 hS1 hz (fun t' n' h => by cases h; exact hK1.2 0 _ rfl)
    subst hq1
    exact kk _ H1 locs _ _ lsA hA1
  rcases ht with ⟨rfl, rfl⟩ | ⟨rfl, rfl⟩ | ⟨rfl, rfl⟩ | ⟨rfl, rfl⟩
  · exact va_newa (a0 := (n.toNatClampNeg, .inl (fun _ => 0))) (ty := .int) hx hb (dm_tb hts (i := 109) (by decide +kernel) rfl) rfl hK.2.1 hA.1.1 (dm_D base ext cA σ) hA.2.1 (fun q hq => Nat.le_trans hK.1 hq) (fun _ => rfl) hn rfl (Nat.le_trans (Nat.mul_le_mul h4 (show componentBytes .int ≤ 8 by decide)) (by decide)) (by omega) (by omega) hdg (fun q cN H1 hK1 hP1 hD1 hS1 => key q cN H1 _ (by simp only [dm_ce, dm_cN, if_true, dm_I, dm_push, dm_row_eq]) hK1 hP1 hD1 hS1)
  · exact va_newa (a0 := (n.toNatClampNeg, .inr (.inl (fun _ => 0)))) (ty := .long) hx hb (dm_tb hts (i := 108) (by decide +kernel) rfl) rfl hK.2.1 hA.1.1 (dm_D base ext cA σ) hA.2.1 (fun q hq => Nat.le_trans hK.1 hq) (fun _ => rfl) hn rfl (Nat.le_trans (Nat.mul_le_mul h4 (show componentBytes .long ≤ 8 by decide)) (by decide)) (by omega) (by omega) hdg (fun q cN H1 hK1 hP1 hD1 hS1 => key q cN H1 _ (by simp only [dm_ce, dm_cN, if_true, dm_L, dm_push, dm_row_eq]) hK1 hP1 hD1 hS1)
  · exact va_newa (a0 := (n.toNatClampNeg, .inl (fun _ => 0))) (ty := .char) hx hb (dm_tb hts (i := 76) (by decide +kernel) rfl) rfl hK.2.1 hA.1.1 (dm_D base ext cA σ) hA.2.1 (fun q hq => Nat.le_trans hK.1 hq) (fun _ => rfl) hn rfl (Nat.le_trans (Nat.mul_le_mul h4 (show componentBytes .char ≤ 8 by decide)) (by decide)) (by omega) (by omega) hdg (fun q cN H1 hK1 hP1 hD1 hS1 => key q cN H1 _ (by simp only [dm_ce, dm_cN, if_true, dm_I, dm_push, dm_row_eq]) hK1 hP1 hD1 hS1)
  · exact va_newa (a0 := (n.toNatClampNeg, .inl (fun _ => 0))) (ty := .boolean) hx hb (dm_tb hts (i := 6008) (by decide +kernel) rfl) rfl hK.2.1 hA.1.1 (dm_D base ext cA σ) hA.2.1 (fun q hq => Nat.le_trans hK.1 hq) (fun _ => rfl) hn rfl (Nat.le_trans (Nat.mul_le_mul h4 (show componentBytes .boolean ≤ 8 by decide)) (by decide)) (by omega) (by omega) hdg (fun q cN H1 hK1 hP1 hD1 hS1 => key q cN H1 _ (by simp only [dm_ce, dm_cN, if_true, dm_I, dm_push, dm_row_eq]) hK1 hP1 hD1 hS1)
theorem dm_g_newq {t : Int} {w : Int} {ix : Nat} (Cx : dm_Cx p s m args c cc own nL S base D ext c0) (ht : (t = 4 ∧ dm_tx (w.toNat) = some (.classLink own ix RX6)) ∨ (t = 5 ∧ dm_tx (w.toNat) = some (.classLink own ix RX7))) (hdg : decode cc pc = .ok (.anewarray ix, 3)) (h : dm_newa ls st σ t.toNat = some (ls', st', σ')) (hRc : dm_cost σ' ≤ c0 + R.cells) (hRs : dm_slo σ' ≤ s0 + R.slots) (kk : dm_Go p l e R s m args below meth c Q nL base D ext c0 s0 (pc + 3) ls' st' σ') : dm_Go p l e R s m args below meth c Q nL base D ext c0 s0 pc ls st σ := by
  intro cA H locs cells slots lsA hA
  obtain ⟨hx, hb, hml, hown, hts, hK, hsz⟩ := Cx
  obtain ⟨n, st1, rfl, hn, h4, hg, rfl, rfl, rfl⟩ := dm_newa_facts h
  have hc := hA.2.2.2.1
  have hs := hA.2.2.2.2
  obtain ⟨e1, e2⟩ := dm_push_cost (σ := σ) (.inr (t.toNat, n.toNatClampNeg))
  have e3 : dm_sz (.inr (t.toNat, n.toNatClampNeg)) = n.toNatClampNeg := rfl
  have key : ∀ (q : Nat) (cN : ClassId) (H1 : Heap) (E : va_E), dm_ce base ext (dm_cN cA σ.1.length cN) (dm_push σ (.inr (t.toNat, n.toNatClampNeg))) σ.1.length (.inr (t.toNat, n.toNatClampNeg)) = E → va_K D dm_cl ([] ++ [(cN, dm_at t.toNat)]) s → va_P D dm_cl (dm_ws base ext cA σ ++ [(q, E)]) H1 → va_D (dm_A base) (dm_ws base ext cA σ ++ [(q, E)]) → va_S (dm_A base) s.heap H1 locs → W p l e R s m args below meth c H1 locs (cells + 1) (slots + n.toNatClampNeg) Q (F0 m (pc + 3) lsA (.ref q :: dm_sm base ext st1)) := by
    intro q cN H1 E hE hK1 hP1 hD1 hS1
    refine dm_Wsz (fun hz => ?_)
    obtain ⟨hq1, hA1⟩ := dm_alloc (x := .inr (t.toNat, n.toNatClampNeg)) (cN := cN) hsz hA hg hE hP1 hD1 hS1 hz (fun t' n' h => by cases h; exact hK1.2 0 _ rfl)
    subst hq1
    exact kk _ H1 locs _ _ lsA hA1
  rcases ht with ⟨rfl, hlk⟩ | ⟨rfl, hlk⟩
  · exact va_newq (C := RX6) hx hb hown (dm_tb hts hlk rfl) hK.2.2.2.2.1 hK.2.1 hA.1.1 (dm_D base ext cA σ) hA.2.1 (fun q hq => Nat.le_trans hK.1 hq) hn rfl (by omega) (by omega) (by omega) hdg (fun q cN H1 hK1 hP1 hD1 hS1 => key q cN H1 _ (by simp only [dm_ce, dm_cN, if_true, dm_R, dm_push, dm_row_eq]; rfl) hK1 hP1 hD1 hS1)
  · exact va_newq (C := RX7) hx hb hown (dm_tb hts hlk rfl) hK.2.2.2.2.2.1 hK.2.1 hA.1.1 (dm_D base ext cA σ) hA.2.1 (fun q hq => Nat.le_trans hK.1 hq) hn rfl (by omega) (by omega) (by omega) hdg (fun q cN H1 hK1 hP1 hD1 hS1 => key q cN H1 _ (by simp only [dm_ce, dm_cN, if_true, dm_R, dm_push, dm_row_eq]; rfl) hK1 hP1 hD1 hS1)
end DMN
