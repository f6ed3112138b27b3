/-! Fields. -/
section DMF
variable {p : Program} {l : Launch} {e : Env} {R : Room} {s : State} {m : MethodId} {args : Array Value} {below : List Frame} {meth : Method} {c : Code} {H : Heap} {locs : List Loc} {cells slots : Nat} {Q : State → Prop}
variable {cc : ByteArray} {own : String} {nL : Nat} {S : dm_Sc} {base : Nat} {D : va_G} {ext : Nat → Nat} {cA : Nat → ClassId} {σ σ' : dm_St} {ls ls' : dm_Lv} {st st' : List Value} {lsA : Array Slot} {pc c0 s0 : Nat}
theorem dm_lkF {ix : Nat} {C n d host : String} {ns w : Int} (hts : ∀ w ∈ dm_GW, w.before args s = true) (hN : ∀ w ∈ dm_nw, va_Nw w s) (h : dm_lk ns w (.fieldLink own ix C n d) (.fieldLinkNest own ix C n d host) = true) :
    (ns = 0 ∧ (Cond.fieldLink own ix C n d).before args s = true) ∨ (Cond.fieldLinkNest own ix C n d host).before args s = true := by
  unfold dm_lk at h
  split at h
  · rename_i h0
    exact Or.inl ⟨h0, dm_tb hts (of_decide_eq_true h) rfl⟩
  · exact Or.inr (va_Nw.use rfl (hN _ (List.mem_of_getElem? (of_decide_eq_true h))))
theorem dm_lkF0 {ix : Nat} {C n d host : String} {ns w : Int} (hts : ∀ w ∈ dm_GW, w.before args s = true) (hns : ns = 0) (h : dm_lk ns w (.fieldLink own ix C n d) (.fieldLinkNest own ix C n d host) = true) : (Cond.fieldLink own ix C n d).before args s = true := by
  unfold dm_lk at h
  rw [if_pos hns] at h
  exact dm_tb hts (of_decide_eq_true h) rfl
/-- a field of an outside object, by a link of either kind -/
theorem dm_getOF {o n d host : String} {ix q : Nat} {v : Value} {A : Nat → Prop} {ls : Array Slot} {rest : List Value} (hexec : p.tables.exec = Jvm.exec) (hb : c.code = cc) (hE : va_OF o n d v q A s s.heap) (hS : va_S A s.heap H locs) (hown : s.vm.findClass own = some m.cls)
    (hlink : (Cond.fieldLink own ix o n d).before args s = true ∨ (Cond.fieldLinkNest own ix o n d host).before args s = true) (hdg : decode cc pc = .ok (.getfield ix, 3))
    (kk : W p l e R s m args below meth c H locs cells slots Q (F0 m (pc + 3) ls (v :: rest))) : W p l e R s m args below meth c H locs cells slots Q (F0 m pc ls (.ref q :: rest)) := by
  obtain ⟨cf, k, fi, f, cell, h1, h2, h3, h4, h5, h6⟩ := hE.kept hS.2.1
  rcases hlink with hlink | hlink
  · exact W.getf hexec hb hown hlink h1 h2 h3 h4 (v := v) h5 rfl rfl hdg kk
  · exact va_Wgetf hexec hb hown hlink h1 h2 h3 h4 (v := v) h5 rfl rfl hdg kk
theorem dm_fs_at {ci k : Nat} {g : Nat → Value} (h : k < dm_nf ci) : ((List.range (dm_nf ci)).map g)[k]? = some (g k) := by
  rw [List.getElem?_map, List.getElem?_range h, Option.map_some]
theorem dm_g_gf {ix : Nat} {aux : List Int} (Cx : dm_Cx p s m args c cc own nL S base D ext c0) (hok : dm_okF own ix aux = true) (hdg : decode cc pc = .ok (.getfield ix, 3)) (h : dm_gf ls st σ aux = some (ls', st', σ')) (kk : dm_Go p l e R s m args below meth c Q nL base D ext c0 s0 (pc + 3) ls' st' σ') : dm_Go p l e R s m args below meth c Q nL base D ext c0 s0 pc ls st σ := by
  intro cA H locs cells slots lsA hA
  obtain ⟨hx, hb, hml, hown, hts, hK, hsz⟩ := Cx
  unfold dm_gf at h
  split at h
  · rename_i q st1 ci k ns w
    split at h
    · rename_i hsh
      cases h
      simp only [dm_okF] at hok
      split at hok
      · rename_i qc hcl
        simp only [Bool.and_eq_true, decide_eq_true_eq] at hok
        obtain ⟨hk, hdecl, hlk⟩ := hok
        obtain ⟨hnf, hty, hnm, hin, -, -⟩ := dm_class hcl
        have he := dm_ws_at (base := base) (ext := ext) (cA := cA) hsh
        have hv : ((List.range (dm_nf ci.toNat)).map (fun k => dm_cv base ext (dm_fv σ q ci.toNat k)))[k.toNat]? = some (dm_cv base ext (dm_fv σ q ci.toNat k.toNat)) := dm_fs_at (by rw [hnf]; exact hk)
        have hs : ∀ x, s.fieldFound? (qc.2.1 k.toNat).1 (qc.2.1 k.toNat).2.1 (qc.2.1 k.toNat).2.2.1 = some x → s.fieldFound? qc.1 (qc.2.1 k.toNat).2.1 (qc.2.1 k.toNat).2.2.1 = some x := fun x hx => by rw [hdecl] at hx; exact hx
        rcases dm_lkF hts hK.2.2.1 hlk with ⟨-, hl⟩ | hl
        · exact va_get hx hb hts hin hown hK.2.1 hA.1.1 q he hcl k.toNat hk hl hs hv hdg (kk cA H locs cells slots lsA hA)
        · exact va_getN hx hb hts hin hown hK.2.1 hA.1.1 q he hcl k.toNat hk hl hs hv hdg (kk cA H locs cells slots lsA hA)
      · cases hok
    · cases h
  · rename_i j st1 x ns w
    have hX := hK.2.2.2.1
    simp only [dm_okF] at hok
    split at h
    · rename_i hj
      obtain ⟨rfl, hj⟩ := hj
      cases h
      rw [if_pos rfl] at hok
      refine dm_getOF (host := RX11) hx hb ((hX.1 j hj).2.1) hA.2.1 hown ?_ hdg (kk cA H locs cells slots lsA hA)
      rcases dm_lkF hts hK.2.2.1 hok with ⟨-, hl⟩ | hl
      · exact Or.inl hl
      · exact Or.inr hl
    · split at h
      · rename_i hj
        obtain ⟨rfl, hj⟩ := hj
        cases h
        rw [if_neg (by decide), if_pos rfl] at hok
        refine dm_getOF (host := RX11) hx hb ((hX.1 j hj).2.2) hA.2.1 hown ?_ hdg (kk cA H locs cells slots lsA hA)
        rcases dm_lkF hts hK.2.2.1 hok with ⟨-, hl⟩ | hl
        · exact Or.inl hl
        · exact Or.inr hl
      · split at h
        · rename_i hj
          obtain ⟨rfl, rfl⟩ := hj
          cases h
          rw [if_neg (by decide), if_neg (by decide), if_pos rfl] at hok
          refine dm_getOF (host := RX11) hx hb hX.2.2.2.2.2.2.2.2.1 hA.2.1 hown ?_ hdg (kk cA H locs cells slots lsA hA)
          rcases dm_lkF hts hK.2.2.1 hok with ⟨-, hl⟩ | hl
          · exact Or.inl hl
          · exact Or.inr hl
        · split at h
          · rename_i hj
            obtain ⟨rfl, rfl⟩ := hj
            cases h
            rw [if_neg (by decide), if_neg (by decide), if_neg (by decide), if_pos rfl] at hok
            refine dm_getOF (host := RX11) hx hb hX.2.2.2.2.2.2.2.1 hA.2.1 hown ?_ hdg (kk cA H locs cells slots lsA hA)
            rcases dm_lkF hts hK.2.2.1 hok with ⟨-, hl⟩ | hl
            · exact Or.inl hl
            · exact Or.inr hl
          · cases h
  · cases h
/-- an object's fields with one other -/
theorem dm_ce_put {q ci k : Nat} {v : Value} (hf : ∀ j, dm_fv σ' q ci j = if j = k then v else dm_fv σ q ci j) : dm_ce base ext cA σ' q (.inl ci) = .inr (ci, ((List.range (dm_nf ci)).map (fun k => dm_cv base ext (dm_fv σ q ci k))).set k (dm_cv base ext v)) := by
  simp only [dm_ce]
  congr 2
  refine List.ext_getElem? fun j => ?_
  rw [List.getElem?_set, List.getElem?_map, List.getElem?_map, List.length_map, List.length_range]
  by_cases hj : j < dm_nf ci
  · rw [List.getElem?_range hj, Option.map_some, hf j]
    by_cases e : k = j
    · subst e
      rw [if_pos rfl, if_pos rfl, if_pos hj]
    · rw [if_neg (fun z => e z.symm), if_neg e, Option.map_some]
  · rw [List.getElem?_eq_none (by rw [List.length_range]; omega), Option.map_none]
    by_cases e : k = j
    · subst e
      rw [if_pos rfl, if_neg hj]
    · rw [if_neg e]; rfl
theorem dm_g_pf {ix : Nat} {aux : List Int} {init : Bool} (Cx : dm_Cx p s m args c cc own nL S base D ext c0) (hini : init = true → meth.name = "<init>") (hok : dm_okF own ix aux = true) (hokP : dm_okP own init aux = true) (hdg : decode cc pc = .ok (.putfield ix, 3)) (h : dm_pf ls st σ aux = some (ls', st', σ')) (kk : dm_Go p l e R s m args below meth c Q nL base D ext c0 s0 (pc + 3) ls' st' σ') : dm_Go p l e R s m args below meth c Q nL base D ext c0 s0 pc ls st σ := by
  intro cA H locs cells slots lsA hA
  obtain ⟨hx, hb, hml, hown, hts, hK, hsz⟩ := Cx
  unfold dm_pf at h
  split at h
  · rename_i v q st1 ci k ns w
    split at h
    · rename_i hsh
      simp only [dm_okF] at hok
      simp only [dm_okP] at hokP
      split at hok
      · rename_i qc hcl
        rw [hcl] at hokP
        dsimp only at hokP
        simp only [Bool.and_eq_true, decide_eq_true_eq] at hok
        obtain ⟨hk, hdecl, hlk⟩ := hok
        obtain ⟨hnf, hty, hnm, hin, -, -⟩ := dm_class hcl
        have he := dm_ws_at (base := base) (ext := ext) (cA := cA) hsh
        have hs : ∀ x, s.fieldFound? (qc.2.1 k.toNat).1 (qc.2.1 k.toNat).2.1 (qc.2.1 k.toNat).2.2.1 = some x → s.fieldFound? qc.1 (qc.2.1 k.toNat).2.1 (qc.2.1 k.toNat).2.2.1 = some x := fun x hx => by rw [hdecl] at hx; exact hx
        have hl : k.toNat < ((List.range (dm_nf ci.toNat)).map (fun k => dm_cv base ext (dm_fv σ q ci.toNat k))).length := by rw [List.length_map, List.length_range, hnf]; exact hk
        have main : ∀ (v : Value) (σ' : dm_St), σ'.1 = σ.1 → σ'.2.1 = σ.2.1 → (∀ r y, r ≠ q → dm_ce base ext cA σ' r y = dm_ce base ext cA σ r y) → (∀ j, dm_fv σ' q ci.toNat j = if j = k.toNat then v else dm_fv σ q ci.toNat j) → narrow (dm_ty ci.toNat k.toNat) (dm_cv base ext v) = dm_cv base ext v → fits (dm_ty ci.toNat k.toNat) (dm_cv base ext v) = true → dm_Go p l e R s m args below meth c Q nL base D ext c0 s0 (pc + 3) ls st1 σ' → W p l e R s m args below meth c H locs cells slots Q (F0 m pc lsA (dm_sm base ext (v :: .ref q :: st1))) := by
          intro v σ' e1 e2 ho hf hn hfit kk
          have post : ∀ (H1 : Heap) (locs1 : List Loc), va_P D dm_cl ((dm_ws base ext cA σ).set q (base + q, .inr (ci.toNat, ((List.range (dm_nf ci.toNat)).map (fun k => dm_cv base ext (dm_fv σ q ci.toNat k))).set k.toNat (dm_cv base ext v)))) H1 → va_D (dm_A base) ((dm_ws base ext cA σ).set q (base + q, .inr (ci.toNat, ((List.range (dm_nf ci.toNat)).map (fun k => dm_cv base ext (dm_fv σ q ci.toNat k))).set k.toNat (dm_cv base ext v)))) → va_S (dm_A base) s.heap H1 locs1 → W p l e R s m args below meth c H1 locs1 cells slots Q (F0 m (pc + 3) lsA (dm_sm base ext st1)) := by
            intro H1 locs1 hP1 _ hS1
            rw [← dm_ce_put (cA := cA) hf, dm_ws_set hsh e1 ho] at hP1
            refine kk cA H1 locs1 cells slots lsA ⟨⟨hP1, fun q' t n hq => hA.1.2 q' t n (by show σ.1[q']? = _; rw [← e1]; exact hq)⟩, hS1, hA.2.2.1, ?_, ?_⟩
            · rw [hA.2.2.2.1]; simp only [dm_cost, e1, e2]
            · rw [hA.2.2.2.2]; simp only [dm_slo, e1, e2]
          by_cases hfin : (qc.2.1 k.toNat).2.2.2 = true
          · rw [if_pos hfin] at hokP
            simp only [Bool.and_eq_true, decide_eq_true_eq] at hokP
            obtain ⟨hi, hC, hns⟩ := hokP
            exact va_putF hx hb hts hin (dm_ty ci.toNat) hty hnm hown hK.2.1 hA.1.1 (dm_D base ext cA σ) hA.2.1 q he hcl k.toNat hk (dm_lkF0 hts hns hlk) hs hfin (hini hi) (by rw [hdecl]; exact hC) (hty _ hk) hn hfit hl hdg post
          · have hfin : (qc.2.1 k.toNat).2.2.2 = false := by simpa using hfin
            rcases dm_lkF hts hK.2.2.1 hlk with ⟨-, hlk⟩ | hlk
            · exact va_put hx hb hts hin (dm_ty ci.toNat) hty hnm hown hK.2.1 hA.1.1 (dm_D base ext cA σ) hA.2.1 q he hcl k.toNat hk hlk hs hfin (hty _ hk) hn hfit hl hdg post
            · exact va_putN hx hb hts hin (dm_ty ci.toNat) hty hnm hown hK.2.1 hA.1.1 (dm_D base ext cA σ) hA.2.1 q he hcl k.toNat hk hlk hs hfin (hty _ hk) hn hfit hl hdg post
        split at h
        · rename_i x hk0
          split at h
          · rename_i hft
            cases h
            refine main (.int x) (dm_setI σ (dm_up (dm_I σ) q k.toNat x)) rfl rfl (fun r y hr => dm_ce_eq (σ := σ) (σ' := dm_setI σ (dm_up (dm_I σ) q k.toNat x)) (dm_up_ne hr) rfl rfl y) (fun j => ?_) (dm_fits_ok hft).1 (dm_fits_ok hft).2 kk
            by_cases e : j = k.toNat
            · subst e; simp [dm_fv, hk0, dm_up, dm_I, dm_L, dm_R, dm_setI, dm_setL, dm_setR]
            · simp [dm_fv, dm_up, e, dm_I, dm_L, dm_R, dm_setI, dm_setL, dm_setR]
          · cases h
        · rename_i x hk0
          cases h
          have ht : dm_ty ci.toNat k.toNat = .long := by
            revert hk0
            cases dm_ty ci.toNat k.toNat <;> simp [dm_fk]
          refine main (.long x) (dm_setL σ (dm_up (dm_L σ) q k.toNat x)) rfl rfl (fun r y hr => dm_ce_eq (σ := σ) (σ' := dm_setL σ (dm_up (dm_L σ) q k.toNat x)) rfl (dm_up_ne hr) rfl y) (fun j => ?_) (by rw [ht]; rfl) (by rw [ht]; rfl) kk
          by_cases e : j = k.toNat
          · subst e; simp [dm_fv, hk0, dm_up, dm_I, dm_L, dm_R, dm_setI, dm_setL, dm_setR]
          · simp [dm_fv, dm_up, e, dm_I, dm_L, dm_R, dm_setI, dm_setL, dm_setR]
        · rename_i v x1 x2 hk0
          split at h
          · rename_i hrf
            cases h
            refine main v (dm_setR σ (dm_up (dm_R σ) q k.toNat v)) rfl rfl (fun r y hr => dm_ce_eq (σ := σ) (σ' := dm_setR σ (dm_up (dm_R σ) q k.toNat v)) rfl rfl (dm_up_ne hr) y) (fun j => ?_) ?_ ?_ kk
            · by_cases e : j = k.toNat
              · subst e; simp [dm_fv, hk0, dm_up, dm_I, dm_L, dm_R, dm_setI, dm_setL, dm_setR]
              · simp [dm_fv, dm_up, e, dm_I, dm_L, dm_R, dm_setI, dm_setL, dm_setR]
            · revert hk0
              cases v <;> first | (simp [dm_isRef] at hrf; done) | (cases dm_ty ci.toNat k.toNat <;> first | (intro _; rfl) | simp [dm_fk])
            · revert hk0
              cases v <;> first | (simp [dm_isRef] at hrf; done) | (cases dm_ty ci.toNat k.toNat <;> first | (intro _; rfl) | simp [dm_fk])
          · cases h
        · cases h
      · cases hok
    · cases h
  · cases h
end DMF
