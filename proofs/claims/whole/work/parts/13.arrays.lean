/-! Arrays. -/
section DMA
variable {p : Program} {l : Launch} {e : Env} {R : Room} {s : State} {m : MethodId} {args : Array Value} {below : List Frame} {meth : Method} {c : Code} {H : Heap} {locs : List Loc} {cells slots : Nat} {Q : State → Prop}
variable {cc : ByteArray} {own : String} {nL : Nat} {S : dm_Sc} {base : Nat} {D : va_G} {ext : Nat → Nat} {cA : Nat → ClassId} {σ σ' : dm_St} {ls ls' : dm_Lv} {st st' : List Value} {lsA : Array Slot} {pc c0 s0 : Nat}
theorem dm_g_ild (Cx : dm_Cx p s m args c cc own nL S base D ext c0) (hdg : decode cc pc = .ok (.iaload, 1)) (h : dm_ald S ls st σ 0 = some (ls', st', σ')) (kk : dm_Go p l e R s m args below meth c Q nL base D ext c0 s0 (pc + 1) ls' st' σ') : dm_Go p l e R s m args below meth c Q nL base D ext c0 s0 pc ls st σ := by
  intro cA H locs cells slots lsA hA
  obtain ⟨hx, hb, hml, hown, hts, hK, hsz⟩ := Cx
  unfold dm_ald at h
  split at h
  · rename_i i q st1
    split at h
    · rename_i t' n hsh
      split at h
      · rename_i hc
        obtain ⟨rfl, hin⟩ := hc
        cases h
        exact va_iald hx hb (dm_Kty hK hA.1 hsh) hA.1.1 q 0 (dm_ws_at hsh) rfl (dm_in_iff.mp hin) hdg (kk cA H locs cells slots lsA hA)
      · cases h
    · cases h
  · rename_i i j st1
    split at h
    · rename_i hc
      obtain ⟨rfl, -, hin, -⟩ := hc
      cases h
      have hX := hK.2.2.2.1.2.2.2.1
      exact va_sld hx hb hX.1 hX.2.2 (Nat.not_le.mpr hX.2.1) hA.2.1 (dm_in_iff.mp hin) hdg (kk cA H locs cells slots lsA hA)
    · split at h
      · rename_i hc
        exact absurd hc.2.1 (by decide)
      · cases h
  · cases h
theorem dm_g_lld (Cx : dm_Cx p s m args c cc own nL S base D ext c0) (hdg : decode cc pc = .ok (.laload, 1)) (h : dm_ald S ls st σ 1 = some (ls', st', σ')) (kk : dm_Go p l e R s m args below meth c Q nL base D ext c0 s0 (pc + 1) ls' st' σ') : dm_Go p l e R s m args below meth c Q nL base D ext c0 s0 pc ls st σ := by
  intro cA H locs cells slots lsA hA
  obtain ⟨hx, hb, hml, hown, hts, hK, hsz⟩ := Cx
  unfold dm_ald at h
  split at h
  · rename_i i q st1
    split at h
    · rename_i t' n hsh
      split at h
      · rename_i hc
        obtain ⟨rfl, hin⟩ := hc
        cases h
        exact va_lald hx hb (dm_Kty hK hA.1 hsh) hA.1.1 q 0 (dm_ws_at hsh) rfl (dm_in_iff.mp hin) hdg (kk cA H locs cells slots lsA hA)
      · cases h
    · cases h
  · split at h
    · rename_i hc
      exact absurd hc.2.1 (by decide)
    · split at h
      · rename_i hc
        exact absurd hc.2.1 (by decide)
      · cases h
  · cases h
theorem dm_g_cld (Cx : dm_Cx p s m args c cc own nL S base D ext c0) (hdg : decode cc pc = .ok (.caload, 1)) (h : dm_ald S ls st σ 2 = some (ls', st', σ')) (kk : dm_Go p l e R s m args below meth c Q nL base D ext c0 s0 (pc + 1) ls' st' σ') : dm_Go p l e R s m args below meth c Q nL base D ext c0 s0 pc ls st σ := by
  intro cA H locs cells slots lsA hA
  obtain ⟨hx, hb, hml, hown, hts, hK, hsz⟩ := Cx
  unfold dm_ald at h
  split at h
  · rename_i i q st1
    split at h
    · rename_i t' n hsh
      split at h
      · rename_i hc
        obtain ⟨rfl, hin⟩ := hc
        cases h
        exact va_cald hx hb (dm_Kty hK hA.1 hsh) hA.1.1 q 0 (dm_ws_at hsh) rfl (dm_in_iff.mp hin) hdg (kk cA H locs cells slots lsA hA)
      · cases h
    · cases h
  · split at h
    · rename_i hc
      exact absurd hc.2.1 (by decide)
    · split at h
      · rename_i hc
        exact absurd hc.2.1 (by decide)
      · cases h
  · cases h
theorem dm_g_zld (Cx : dm_Cx p s m args c cc own nL S base D ext c0) (hdg : decode cc pc = .ok (.baload, 1)) (h : dm_ald S ls st σ 3 = some (ls', st', σ')) (kk : dm_Go p l e R s m args below meth c Q nL base D ext c0 s0 (pc + 1) ls' st' σ') : dm_Go p l e R s m args below meth c Q nL base D ext c0 s0 pc ls st σ := by
  intro cA H locs cells slots lsA hA
  obtain ⟨hx, hb, hml, hown, hts, hK, hsz⟩ := Cx
  unfold dm_ald at h
  split at h
  · rename_i i q st1
    split at h
    · rename_i t' n hsh
      split at h
      · rename_i hc
        obtain ⟨rfl, hin⟩ := hc
        cases h
        exact va_zald hx hb (dm_Kty hK hA.1 hsh) hA.1.1 q 0 (dm_ws_at hsh) rfl (dm_in_iff.mp hin) hdg (kk cA H locs cells slots lsA hA)
      · cases h
    · cases h
  · split at h
    · rename_i hc
      exact absurd hc.2.1 (by decide)
    · split at h
      · rename_i hc
        obtain ⟨rfl, -, hin⟩ := hc
        cases h
        exact va_tb hx hb hK.2.2.2.1.2.2.2.2.2.2.2.2.2 hA.2.1 (dm_in_iff.mp hin) rfl hdg (kk cA H locs cells slots lsA hA)
      · cases h
  · cases h
theorem dm_ce_q {q t n : Nat} (h : 4 ≤ t) : dm_ce base ext cA σ q (.inr (t, n)) = .inl (cA q, n, .inr (.inr (.inr (.inr (fun i => dm_ro base ext (dm_R σ q i)))))) := by
  match t, h with
  | t + 4, _ => rfl
theorem dm_at_q {t : Nat} (h : 4 ≤ t) : (t = 4 ∧ dm_at t = .object RX6) ∨ (t = 5 ∧ dm_at t = .object RX7) ∨ dm_at t = .array .int := by
  match t, h with
  | 4, _ => exact Or.inl ⟨rfl, rfl⟩
  | 5, _ => exact Or.inr (Or.inl ⟨rfl, rfl⟩)
  | t + 6, _ => exact Or.inr (Or.inr rfl)
theorem dm_g_ald (Cx : dm_Cx p s m args c cc own nL S base D ext c0) (hdg : decode cc pc = .ok (.aaload, 1)) (h : dm_aald ls st σ = some (ls', st', σ')) (kk : dm_Go p l e R s m args below meth c Q nL base D ext c0 s0 (pc + 1) ls' st' σ') : dm_Go p l e R s m args below meth c Q nL base D ext c0 s0 pc ls st σ := by
  intro cA H locs cells slots lsA hA
  obtain ⟨hx, hb, hml, hown, hts, hK, hsz⟩ := Cx
  unfold dm_aald at h
  split at h
  · rename_i i q st1
    split at h
    · rename_i t n hsh
      split at h
      · rename_i hc
        obtain ⟨ht, hin, hrf⟩ := hc
        cases h
        have hk := kk cA H locs cells slots lsA hA
        have hk2 : W p l e R s m args below meth c H locs cells slots Q (F0 m (pc + 1) lsA (va_rf (dm_ro base ext (dm_R σ q i.toNatClampNeg)) :: dm_sm base ext st1)) := by rw [dm_rf hrf]; exact hk
        have he := dm_ws_at (base := base) (ext := ext) (cA := cA) hsh
        rw [dm_ce_q ht] at he
        have hKt := dm_Kty hK hA.1 hsh
        have hlt : i.toNatClampNeg < n := Nat.not_le.mp fun z => (dm_in_iff.mp hin) (Or.inr z)
        rcases dm_at_q ht with ⟨-, h2⟩ | ⟨-, h2⟩ | h2
        · exact va_aldq (C := RX6) hx hb hKt hA.1.1 q 0 he (by rw [h2]; rfl) (dm_in_iff.mp hin) hdg hk2
        · exact va_aldq (C := RX7) hx hb hKt hA.1.1 q 0 he (by rw [h2]; rfl) (dm_in_iff.mp hin) hdg hk2
        · have hKa := (hKt.2 0 _ rfl).1
          rw [h2] at hKa
          exact W.aald (v := va_rf (dm_ro base ext (dm_R σ q i.toNatClampNeg))) (ty := .array .int) hx hb (hA.1.1 q _ he) (hKa n (fun j => va_rf (dm_ro base ext (dm_R σ q j)))) rfl (fun z => by cases z) (by show ¬ (i < 0 ∨ (arrV _ _ _).slots.size ≤ _); rw [arrV_size]; exact dm_in_iff.mp hin) (by show (arrV _ _ _).slots[_]? = _; rw [arrV_read _ _ hlt]) rfl rfl hdg hk2
      · cases h
    · cases h
  · rename_i i j st1
    split at h
    · rename_i hc
      obtain ⟨rfl, hin⟩ := hc
      cases h
      exact vb_tq hx hb hK.2.2.2.1.2.2.1.2 hA.2.1 (dm_in_iff.mp hin) rfl hdg (kk cA H locs cells slots lsA hA)
    · cases h
  · cases h
theorem dm_up_row {α : Type} {f : Nat → Nat → α} {q i : Nat} {v : α} : dm_up f q i v q = fun j => if j = i then v else f q j := by
  funext j
  simp [dm_up]
/-- an array's row is another -/
theorem dm_put_row (hA : dm_At s nL base D ext c0 s0 cA σ ls H locs cells slots lsA) {q : Nat} {x : dm_Sh} (hsh : (dm_sh σ)[q]? = some x) (e1 : σ'.1 = σ.1) (e2 : σ'.2.1 = σ.2.1) (ho : ∀ r y, r ≠ q → dm_ce base ext cA σ' r y = dm_ce base ext cA σ r y) {H1 : Heap} {locs1 : List Loc} {E : va_E} (hE : dm_ce base ext cA σ' q x = E) (hP : va_P D dm_cl ((dm_ws base ext cA σ).set q (base + q, E)) H1) (hS : va_S (dm_A base) s.heap H1 locs1) :
    dm_At s nL base D ext c0 s0 cA σ' ls H1 locs1 cells slots lsA := by
  rw [← hE, dm_ws_set hsh e1 ho] at hP
  refine ⟨⟨hP, fun q' t n hq => hA.1.2 q' t n (by show σ.1[q']? = _; rw [← e1]; exact hq)⟩, hS, hA.2.2.1, ?_, ?_⟩
  · rw [hA.2.2.2.1]; simp only [dm_cost, e1, e2]
  · rw [hA.2.2.2.2]; simp only [dm_slo, e1, e2]
theorem dm_g_ast {t : Nat} {i0 : Instr} (Cx : dm_Cx p s m args c cc own nL S base D ext c0) (hi : (t = 0 ∧ i0 = .iastore) ∨ (t = 2 ∧ i0 = .castore) ∨ (t = 3 ∧ i0 = .bastore)) (hdg : decode cc pc = .ok (i0, 1)) (h : dm_ast ls st σ t = some (ls', st', σ')) (kk : dm_Go p l e R s m args below meth c Q nL base D ext c0 s0 (pc + 1) ls' st' σ') : dm_Go p l e R s m args below meth c Q nL base D ext c0 s0 pc ls st σ := by
  intro cA H locs cells slots lsA hA
  obtain ⟨hx, hb, hml, hown, hts, hK, hsz⟩ := Cx
  unfold dm_ast at h
  split at h
  · rename_i x i q st1
    split at h
    · rename_i t' n hsh
      split at h
      · rename_i hc
        obtain ⟨rfl, hft, hin⟩ := hc
        cases h
        have hn := (dm_fits_ok hft).1
        have hnar : vp_nar (dm_at t') x = x := by unfold vp_nar; rw [hn]
        have ho : ∀ r y, r ≠ q → dm_ce base ext cA (dm_setI σ (dm_up (dm_I σ) q i.toNatClampNeg x)) r y = dm_ce base ext cA σ r y := fun r y hr => dm_ce_eq (σ := σ) (σ' := dm_setI σ (dm_up (dm_I σ) q i.toNatClampNeg x)) (dm_up_ne hr) rfl rfl y
        rcases hi with ⟨rfl, rfl⟩ | ⟨rfl, rfl⟩ | ⟨rfl, rfl⟩
        · refine va_iast hx hb (dm_Kty hK hA.1 hsh) hA.1.1 (dm_D base ext cA σ) hA.2.1 q 0 (dm_ws_at hsh) rfl (dm_in_iff.mp hin) hdg (fun H1 locs1 hP1 _ hS1 => kk cA H1 locs1 cells slots lsA (dm_put_row (σ' := dm_setI σ (dm_up (dm_I σ) q i.toNatClampNeg x)) hA hsh rfl rfl ho ?_ hP1 hS1))
          simp only [dm_ce, dm_I, dm_setI, dm_up_row]; rfl
        · refine va_cast hx hb (dm_Kty hK hA.1 hsh) hA.1.1 (dm_D base ext cA σ) hA.2.1 q 0 (dm_ws_at hsh) rfl (dm_in_iff.mp hin) hdg (fun H1 locs1 hP1 _ hS1 => kk cA H1 locs1 cells slots lsA (dm_put_row (σ' := dm_setI σ (dm_up (dm_I σ) q i.toNatClampNeg x)) hA hsh rfl rfl ho ?_ hP1 hS1))
          rw [show vp_nar .char x = x from hnar]
          simp only [dm_ce, dm_I, dm_setI, dm_up_row]; rfl
        · refine va_zast hx hb (dm_Kty hK hA.1 hsh) hA.1.1 (dm_D base ext cA σ) hA.2.1 q 0 (dm_ws_at hsh) rfl (dm_in_iff.mp hin) hdg (fun H1 locs1 hP1 _ hS1 => kk cA H1 locs1 cells slots lsA (dm_put_row (σ' := dm_setI σ (dm_up (dm_I σ) q i.toNatClampNeg x)) hA hsh rfl rfl ho ?_ hP1 hS1))
          rw [show vp_nar .boolean x = x from hnar]
          simp only [dm_ce, dm_I, dm_setI, dm_up_row]; rfl
      · cases h
    · cases h
  · cases h
theorem dm_g_last (Cx : dm_Cx p s m args c cc own nL S base D ext c0) (hdg : decode cc pc = .ok (.lastore, 1)) (h : dm_last ls st σ = some (ls', st', σ')) (kk : dm_Go p l e R s m args below meth c Q nL base D ext c0 s0 (pc + 1) ls' st' σ') : dm_Go p l e R s m args below meth c Q nL base D ext c0 s0 pc ls st σ := by
  intro cA H locs cells slots lsA hA
  obtain ⟨hx, hb, hml, hown, hts, hK, hsz⟩ := Cx
  unfold dm_last at h
  split at h
  · rename_i x i q st1
    split at h
    · rename_i t' n hsh
      split at h
      · rename_i hc
        obtain ⟨rfl, hin⟩ := hc
        cases h
        have ho : ∀ r y, r ≠ q → dm_ce base ext cA (dm_setL σ (dm_up (dm_L σ) q i.toNatClampNeg x)) r y = dm_ce base ext cA σ r y := fun r y hr => dm_ce_eq (σ := σ) (σ' := dm_setL σ (dm_up (dm_L σ) q i.toNatClampNeg x)) rfl (dm_up_ne hr) rfl y
        refine va_last hx hb (dm_Kty hK hA.1 hsh) hA.1.1 (dm_D base ext cA σ) hA.2.1 q 0 (dm_ws_at hsh) rfl (dm_in_iff.mp hin) hdg (fun H1 locs1 hP1 _ hS1 => kk cA H1 locs1 cells slots lsA (dm_put_row (σ' := dm_setL σ (dm_up (dm_L σ) q i.toNatClampNeg x)) hA hsh rfl rfl ho ?_ hP1 hS1))
        simp only [dm_ce, dm_L, dm_setL, dm_up_row]; rfl
      · cases h
    · cases h
  · cases h
theorem dm_g_aast (Cx : dm_Cx p s m args c cc own nL S base D ext c0) (hdg : decode cc pc = .ok (.aastore, 1)) (h : dm_aast ls st σ = some (ls', st', σ')) (kk : dm_Go p l e R s m args below meth c Q nL base D ext c0 s0 (pc + 1) ls' st' σ') : dm_Go p l e R s m args below meth c Q nL base D ext c0 s0 pc ls st σ := by
  intro cA H locs cells slots lsA hA
  obtain ⟨hx, hb, hml, hown, hts, hK, hsz⟩ := Cx
  unfold dm_aast at h
  split at h
  · rename_i x i q st1
    split at h
    · rename_i t n ci hsh hsx
      split at h
      · rename_i hc
        obtain ⟨ht, hin⟩ := hc
        cases h
        have ho : ∀ r y, r ≠ q → dm_ce base ext cA (dm_setR σ (dm_up (dm_R σ) q i.toNatClampNeg (.ref x))) r y = dm_ce base ext cA σ r y := fun r y hr => dm_ce_eq (σ := σ) (σ' := dm_setR σ (dm_up (dm_R σ) q i.toNatClampNeg (.ref x))) rfl rfl (dm_up_ne hr) y
        have fin : ∀ k : Nat, (fun j => dm_ro base ext (if j = k then Value.ref x else dm_R σ q j)) = va_up (fun j => dm_ro base ext (dm_R σ q j)) k (some (base + x)) := fun k => by
          funext j
          by_cases e : j = k
          · simp [e, va_up, dm_ro]
          · simp [e, va_up]
        rcases ht with ⟨rfl, rfl⟩ | ⟨rfl, rfl⟩
        · refine va_astq (r := (RX6, TX6, 3)) hx hb (dm_Kty hK hA.1 hsh) hA.1.1 (dm_D base ext cA σ) hA.2.1 q 0 x 6 (dm_ws_at hsh) rfl (dm_ws_at hsx) rfl (dm_in_iff.mp hin) hdg (fun H1 locs1 hP1 _ hS1 => kk cA H1 locs1 cells slots lsA (dm_put_row (σ' := dm_setR σ (dm_up (dm_R σ) q i.toNatClampNeg (.ref x))) hA hsh rfl rfl ho ?_ hP1 hS1))
          simp only [dm_ce, dm_R, dm_setR, dm_up_row]
          rw [← fin]
        · refine va_astq (r := (RX7, TX7, 10)) hx hb (dm_Kty hK hA.1 hsh) hA.1.1 (dm_D base ext cA σ) hA.2.1 q 0 x 7 (dm_ws_at hsh) rfl (dm_ws_at hsx) rfl (dm_in_iff.mp hin) hdg (fun H1 locs1 hP1 _ hS1 => kk cA H1 locs1 cells slots lsA (dm_put_row (σ' := dm_setR σ (dm_up (dm_R σ) q i.toNatClampNeg (.ref x))) hA hsh rfl rfl ho ?_ hP1 hS1))
          simp only [dm_ce, dm_R, dm_setR, dm_up_row]
          rw [← fin]
      · cases h
    · cases h
  · cases h
theorem dm_g_len (Cx : dm_Cx p s m args c cc own nL S base D ext c0) (hdg : decode cc pc = .ok (.arraylength, 1)) (h : dm_len S ls st σ = some (ls', st', σ')) (kk : dm_Go p l e R s m args below meth c Q nL base D ext c0 s0 (pc + 1) ls' st' σ') : dm_Go p l e R s m args below meth c Q nL base D ext c0 s0 pc ls st σ := by
  intro cA H locs cells slots lsA hA
  obtain ⟨hx, hb, hml, hown, hts, hK, hsz⟩ := Cx
  unfold dm_len at h
  split at h
  · rename_i q st1
    split at h
    · rename_i t n hsh
      cases h
      exact va_alen (ty := dm_at t) hx hb (dm_Kty hK hA.1 hsh) hA.1.1 q 0 (dm_ws_at hsh) rfl rfl hdg (kk cA H locs cells slots lsA hA)
    · cases h
  · rename_i j st1
    split at h
    · rename_i hj
      obtain ⟨rfl, -⟩ := hj
      cases h
      have hX := hK.2.2.2.1.2.2.2.1
      exact va_slen hx hb hX.1 hX.2.2 (Nat.not_le.mpr hX.2.1) hA.2.1 hdg (kk cA H locs cells slots lsA hA)
    · split at h
      · rename_i hj
        subst hj
        cases h
        exact va_tlen hx hb hK.2.2.2.1.2.2.1.2 hA.2.1 rfl hdg (kk cA H locs cells slots lsA hA)
      · split at h
        · rename_i hj
          subst hj
          cases h
          exact va_tlen hx hb hK.2.2.2.1.2.2.2.2.2.2.2.2.2 hA.2.1 rfl hdg (kk cA H locs cells slots lsA hA)
        · cases h
  · cases h
end DMA
