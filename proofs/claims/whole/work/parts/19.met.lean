/-! A METHOD of the table: its pure run is a contract. -/
theorem dm_args (base : Nat) (ext : Nat → Nat) : ∀ (i : Nat) (as : List Value), lv_args i (dm_sm base ext as) = dm_lm base ext (lv_args i as)
  | _, [] => rfl
  | i, a :: as => by
    show lv_args i (dm_cv base ext a :: dm_sm base ext as) = _
    simp only [lv_args, dm_lm, List.map_cons, dm_cv_cat]
    congr 1
    exact dm_args base ext _ as
theorem dm_slen (as : List Value) : (lg_sl as).length = (as.map fun v => v.category).sum := by
  induction as with
  | nil => rfl
  | cons a as ih =>
    simp only [lg_sl, List.flatMap_cons, List.length_append, List.map_cons, List.sum_cons] at ih ⊢
    rw [ih]
    congr 1
    cases a <;> rfl
theorem dm_run_row {S : dm_Sc} {d n mi : Nat} {row : dm_Row} {as : List Value} {σ : dm_St} {x : Option Value × dm_St} (hrow : dm_tab mi = some row) (h : dm_run S dm_tab (d + 1) n mi as σ = some x) : Nat.ble ((as.map fun v => v.category).sum) row.2.2.1 = true ∧ dm_exec S (dm_run S dm_tab d n) row.2.2.2.1 row.2.2.2.2.2 n row.2.2.2.2.2 (lv_args 0 as) [] σ = some x := by
  unfold dm_run at h
  rw [hrow] at h
  dsimp only at h
  split at h
  · rename_i h1
    exact ⟨h1, h⟩
  · cases h
set_option maxHeartbeats 4000000 in
theorem dm_met (l : Launch) (S : dm_Sc) (base : Nat) (D : va_G) (ext : Nat → Nat) (hrows : ∀ mi row, dm_tab mi = some row → dm_RowOK mi row) (n : Nat) : ∀ (d : Nat) (mi : Nat) (row : dm_Row) (as : List Value) (σ : dm_St) (r : Option Value) (σ' : dm_St), dm_tab mi = some row → dm_run S dm_tab d n mi as σ = some (r, σ') →
    Met l row.1 (dm_wU row) (dm_rm d (dm_cost σ' - dm_cost σ) (dm_slo σ' - dm_slo σ)) (dm_Pc S base D ext σ as) (dm_Qc base D ext r σ') (dm_cost σ' - dm_cost σ) (dm_slo σ' - dm_slo σ) (dm_A base)
  | 0, _, _, _, _, _, _, _, h => by simp [dm_run] at h
  | d + 1, mi, row, as, σ, r, σ', hrow, h => by
    have ih := dm_met l S base D ext hrows n d
    have hle := dm_run_le _ _ _ _ _ _ h
    obtain ⟨hw, hex⟩ := dm_run_row hrow h
    obtain ⟨hokM, hokR⟩ := hrows mi row hrow
    obtain ⟨hcode, hinit, hplain, hownR, hmh, hmax, hT, -, -⟩ := hokR
    refine Met.ofW (cc := row.2.1) (maxL := row.2.2.1) (ret := row.2.2.2.1) hplain rfl ?_
    intro p e s m args below meth c s₁ B hml hP
    obtain ⟨rfl, hK, ⟨cA, hWd⟩, hsz⟩ := hP
    have hts0 := atoms_spec (ws := dm_wU row) B.pre
    have hts : ∀ w ∈ dm_GW, w.before (dm_sm base ext as).toArray s = true := fun w hw => hts0 w (List.mem_cons_of_mem _ hw)
    have hown : s.vm.findClass row.2.2.2.2.1 = some m.cls := by rw [hownR]; exact findClass_of_methodNamed B.named
    have hname := (name_of_methodNamed B.named B.method).1
    have Cx : dm_Cx p s m (dm_sm base ext as).toArray c row.2.1 row.2.2.2.2.1 row.2.2.1 S base D ext (dm_cost σ) := ⟨B.exec, B.bytes, hml, hown, hts, hK, hsz⟩
    have hlen : (lg_sl (dm_sm base ext as)).length ≤ row.2.2.1 := by
      rw [dm_slen]
      have e9 : ((dm_sm base ext as).map fun v => v.category) = as.map fun v => v.category := by
        rw [List.map_map]
        exact List.map_congr_left fun v _ => dm_cv_cat base ext v
      rw [e9]
      exact Nat.le_of_ble_eq_true hw
    have hl := lv_entry (dm_sm base ext as) (n := row.2.2.1) hlen
    rw [dm_args] at hl
    rw [lg_entry_eq]
    have hR : dm_rm (d + 1) ((headSpec (dm_wU row) (dm_rm (d + 1) (dm_cost σ' - dm_cost σ) (dm_slo σ' - dm_slo σ))).room).cells ((headSpec (dm_wU row) (dm_rm (d + 1) (dm_cost σ' - dm_cost σ) (dm_slo σ' - dm_slo σ))).room).slots = (headSpec (dm_wU row) (dm_rm (d + 1) (dm_cost σ' - dm_cost σ) (dm_slo σ' - dm_slo σ))).room := rfl
    have hcells : ((headSpec (dm_wU row) (dm_rm (d + 1) (dm_cost σ' - dm_cost σ) (dm_slo σ' - dm_slo σ))).room).cells = dm_cost σ' - dm_cost σ := rfl
    have hslots : ((headSpec (dm_wU row) (dm_rm (d + 1) (dm_cost σ' - dm_cost σ) (dm_slo σ' - dm_slo σ))).room).slots = dm_slo σ' - dm_slo σ := rfl
    have hlin : dm_lin 0 row.2.2.2.2.2 = true := by
      simp only [dm_okM, Bool.and_eq_true] at hokM
      exact hokM.1
    have hall : ∀ o ∈ row.2.2.2.2.2, dm_okI row.2.2.2.2.1 row.2.1 (decide (row.1.name = "<init>")) o = true := by
      simp only [dm_okM, Bool.and_eq_true] at hokM
      exact fun o ho => List.all_eq_true.mp hokM.2 o ho
    refine dm_body (init := decide (row.1.name = "<init>")) (s0 := dm_slo σ) (call := dm_run S dm_tab d n) Cx (fun hi => by rw [hname]; exact of_decide_eq_true hi) hokM (fun o ho => List.all_eq_true.mp hT o ho) (fun mi as σ r σ' h => dm_run_le _ _ _ _ _ _ h) (r := r) (σf := σ') (by rw [hcells]; have := hle.1; omega) (by rw [hslots]; have := hle.2; omega) ?_ ?_ n row.2.2.2.2.2 0 (lv_args 0 as) [] σ ⟨⟨[], rfl⟩, hlin⟩ hex cA s.heap [] 0 0 _ ⟨hWd, va_S.rf, hl, by omega, by omega⟩
    · intro pc i len aux ls st σ1 ls' st' σ2 ho hi hinv h1 h2 kk
      exact dm_g_inv (d := d) (n := n) Cx hR hrows ih hi (hall _ ho) hinv h1 h2 kk
    · intro pc i len aux ls st ho hret cA1 H1 locs1 cells1 slots1 lsA1 hA1
      have hoI := hall _ ho
      simp only [dm_okI, Bool.and_eq_true] at hoI
      obtain ⟨hdec0, hlen9, -⟩ := hoI
      have hdec : decode row.2.1 pc = .ok (i, len) := of_decide_eq_true hdec0
      clear hdec0
      have hc1 : cells1 = dm_cost σ' - dm_cost σ := by have := hA1.2.2.2.1; omega
      have hs1 : slots1 = dm_slo σ' - dm_slo σ := by have := hA1.2.2.2.2; omega
      rw [← hc1, ← hs1]
      have post : ∀ t : State, t.heap = H1 → s.WarmedH t.vm → dm_Qc base D ext r σ' (dm_sm base ext as).toArray s (.returned (r.map (dm_cv base ext))) t := fun t ht hW =>
        ⟨rfl, ⟨cA1, by rw [ht]; exact hA1.1.moved hW.alike⟩, hA1.2.1.F ht⟩
      have hfree : ∀ q ∈ locs1, dm_A base q.base := fun q hq => hA1.2.1.2.2 q hq
      rcases hret with ⟨rfl, hr, rfl, rfl⟩ | ⟨rfl, ty, v, hr, rfl, hf, rfl⟩ | ⟨rfl, v, hr, rfl, rfl⟩ | ⟨rfl, nm, v, hr, rfl, hv, rfl⟩
      · obtain rfl : len = 1 := of_decide_eq_true hlen9
        exact W.vret B.exec B.bytes (B.returns.trans hr) post hfree hdec
      · obtain rfl : len = 1 := of_decide_eq_true hlen9
        exact W.zret B.exec B.bytes (B.returns.trans hr) (dm_fits_ok hf).1 post hfree hdec
      · obtain rfl : len = 1 := of_decide_eq_true hlen9
        exact W.lret B.exec B.bytes (B.returns.trans hr) post hfree hdec
      · obtain rfl : len = 1 := of_decide_eq_true hlen9
        refine W.aret B.exec B.bytes (B.returns.trans hr) (Or.inl ⟨nm, rfl⟩) ?_ post hfree hdec
        cases v <;> first | exact Or.inl rfl | exact Or.inr ⟨_, rfl⟩ | (simp [dm_isRef] at hv)
