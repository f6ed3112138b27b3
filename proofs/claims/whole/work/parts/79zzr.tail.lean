/-! A body whose pure code begins at any pc. -/
theorem dm_jump_sufA {code : List dm_Op} {a : Nat} (hlin : dm_lin a code = true) {t : Int} {o : dm_Op} {k : List dm_Op} (h : dm_jump code t = o :: k) : (o.1 : Int) = t ∧ dm_suf code (o :: k) o.1 := by
  have hs : dm_jump code t <:+ code := List.dropWhile_suffix _
  rw [h] at hs
  obtain ⟨pre, hpre⟩ := hs
  refine ⟨?_, ⟨pre, hpre.symm⟩, dm_lin_suf pre a (by rw [hpre]; exact hlin)⟩
  have h2 := List.head?_dropWhile_not (p := fun o : dm_Op => !((o.1 : Int) == t)) (l := code)
  have h3 : (List.dropWhile (fun o : dm_Op => !((o.1 : Int) == t)) code) = o :: k := h
  rw [h3] at h2
  simpa using h2
section DMBA
variable {p : Program} {l : Launch} {e : Env} {R : Room} {s : State} {m : MethodId} {args : Array Value} {below : List Frame} {meth : Method} {c : Code} {Q : State → Prop}
variable {cc : ByteArray} {own : String} {nL : Nat} {S : dm_Sc} {base : Nat} {D : va_G} {ext : Nat → Nat} {c0 s0 : Nat} {ret : Option FieldType} {code : List dm_Op} {call : Nat → List Value → dm_St → dm_Rs} {init : Bool}
set_option maxHeartbeats 8000000 in
theorem dm_bodyA {a : Nat} (Cx : dm_Cx p s m args c cc own nL S base D ext c0) (hini : init = true → meth.name = "<init>") (hlin : dm_lin a code = true) (hall : ∀ o ∈ code, dm_okI own cc init o = true) (hsl : ∀ o ∈ code, dm_okT nL o = true) (hcall : ∀ mi as σ r σ', call mi as σ = some (r, σ') → dm_le σ σ')
    {r : Option Value} {σf : dm_St} (hRc : dm_cost σf ≤ c0 + R.cells) (hRs : dm_slo σf ≤ s0 + R.slots)
    (hinv : ∀ (pc : Nat) (i : Instr) (len : Nat) (aux : List Int) (ls : dm_Lv) (st : List Value) (σ : dm_St) (ls' : dm_Lv) (st' : List Value) (σ' : dm_St), (pc, i, len, aux) ∈ code → ((∃ x, i = .invokevirtual x) ∨ (∃ x, i = .invokestatic x) ∨ ∃ x, i = .invokespecial x) → dm_inv call aux ls st σ = some (ls', st', σ') → dm_cost σ' ≤ c0 + R.cells → dm_slo σ' ≤ s0 + R.slots → dm_Go p l e R s m args below meth c Q nL base D ext c0 s0 (pc + 3) ls' st' σ' → dm_Go p l e R s m args below meth c Q nL base D ext c0 s0 pc ls st σ)
    (hret : ∀ (pc : Nat) (i : Instr) (len : Nat) (aux : List Int) (ls : dm_Lv) (st : List Value), (pc, i, len, aux) ∈ code → dm_isRet ret i st r → dm_Go p l e R s m args below meth c Q nL base D ext c0 s0 pc ls st σf) :
    ∀ (n : Nat) (k : List dm_Op) (pc : Nat) (ls : dm_Lv) (st : List Value) (σ : dm_St), dm_suf code k pc → dm_exec S call ret code n k ls st σ = some (r, σf) → dm_Go p l e R s m args below meth c Q nL base D ext c0 s0 pc ls st σ := by
  obtain ⟨hx, hb, hml, hown, hts, hK, hsz⟩ := id Cx
  intro n
  induction n with
  | zero => intro k pc ls st σ _ h; simp [dm_exec] at h
  | succ n ih =>
    intro k pc ls st σ hsuf h
    cases k with
    | nil => simp [dm_exec] at h
    | cons o k =>
      obtain ⟨⟨pre, hpre⟩, hl⟩ := id hsuf
      have ho : o ∈ code := by rw [hpre]; exact List.mem_append_right _ List.mem_cons_self
      have hoI := hall o ho
      obtain ⟨pc0, i, len, aux⟩ := o
      simp only [dm_lin, Bool.and_eq_true, decide_eq_true_eq] at hl
      obtain ⟨hpc, hlk⟩ := hl
      subst hpc
      have hsk : dm_suf code k (pc0 + len) := ⟨⟨pre ++ [(pc0, i, len, aux)], by rw [hpre, List.append_assoc]; rfl⟩, hlk⟩
      have hoI2 := hoI
      simp only [dm_okI, Bool.and_eq_true] at hoI2
      obtain ⟨hdec0, hlen, -⟩ := hoI2
      have hdec : decode cc pc0 = .ok (i, len) := of_decide_eq_true hdec0
      clear hdec0
      have hT1 := hsl _ ho
      simp only [dm_okT, Bool.and_eq_true] at hT1
      obtain ⟨hT0', hT⟩ := hT1
      have hT0 : dm_sl i < nL := of_decide_eq_true hT0'
      clear hT0'
      -- a jump
      have jmp : ∀ (off : Int) (ls : dm_Lv) (st : List Value) (σ : dm_St), dm_exec S call ret code n (dm_jump code (pc0 + off)) ls st σ = some (r, σf) → ∃ tgt : Nat, (pc0 : Int) + off = (tgt : Int) ∧ dm_Go p l e R s m args below meth c Q nL base D ext c0 s0 tgt ls st σ := by
        intro off ls st σ h
        cases hj : dm_jump code (pc0 + off) with
        | nil =>
          rw [hj] at h
          cases n with
          | zero => simp [dm_exec] at h
          | succ n => simp [dm_exec] at h
        | cons o k2 =>
          obtain ⟨h1, h2⟩ := dm_jump_sufA hlin hj
          rw [hj] at h
          exact ⟨o.1, h1.symm, ih _ _ _ _ _ h2 h⟩
      unfold dm_exec at h
      split at h
      · -- return
        split at h
        · cases h
          exact hret _ _ _ _ _ _ ho (Or.inl ⟨rfl, rfl, rfl, rfl⟩)
        · cases h
      · split at h
        · split at h
          · rename_i ty v hf
            cases h
            exact hret _ _ _ _ _ _ ho (Or.inr (Or.inl ⟨rfl, ty, v, rfl, rfl, hf, rfl⟩))
          · cases h
        · cases h
      · split at h
        · cases h
          exact hret _ _ _ _ _ _ ho (Or.inr (Or.inr (Or.inl ⟨rfl, _, rfl, rfl, rfl⟩)))
        · cases h
      · split at h
        · split at h
          · rename_i hf
            cases h
            exact hret _ _ _ _ _ _ ho (Or.inr (Or.inr (Or.inr ⟨rfl, _, _, rfl, rfl, hf, rfl⟩)))
          · cases h
        · cases h
      · -- goto
        rename_i off
        obtain rfl : len = 3 := of_decide_eq_true hlen
        obtain ⟨tgt, ht, hg⟩ := jmp _ _ _ _ h
        intro cA H locs cells slots lsA hA
        exact lv_goto hx hb hdec ht (hg cA H locs cells slots lsA hA)
      · -- if_icmp
        rename_i cnd off
        obtain rfl : len = 3 := of_decide_eq_true hlen
        have h0 : 0 ≤ (pc0 : Int) + off := of_decide_eq_true hT
        have ht : (pc0 : Int) + off = (((pc0 : Int) + off).toNat : Int) := (Int.toNat_of_nonneg h0).symm
        split at h
        · rename_i y x st1
          intro cA H locs cells slots lsA hA
          have fall : dm_cmp cnd x y = false → W p l e R s m args below meth c H locs cells slots Q (F0 m (pc0 + 3) lsA (dm_sm base ext st1)) := fun hc => by
            rw [hc] at h
            exact ih k (pc0 + 3) _ _ _ hsk h cA H locs cells slots lsA hA
          have take : dm_cmp cnd x y = true → W p l e R s m args below meth c H locs cells slots Q (F0 m ((pc0 : Int) + off).toNat lsA (dm_sm base ext st1)) := fun hc => by
            rw [hc] at h
            obtain ⟨tgt, ht2, hg⟩ := jmp off _ _ _ h
            have e9 : ((pc0 : Int) + off).toNat = tgt := by omega
            rw [e9]
            exact hg cA H locs cells slots lsA hA
          cases cnd with
          | eq => exact lv_icmp_eq hx hb hdec ht (fun hc => take (decide_eq_true hc)) (fun hc => fall (decide_eq_false hc))
          | ne => exact lv_icmp_ne hx hb hdec ht (fun hc => take (decide_eq_true hc)) (fun hc => fall (decide_eq_false (fun z => z hc)))
          | lt => exact lv_icmp_lt hx hb hdec ht (fun hc => take (decide_eq_true hc)) (fun hc => fall (decide_eq_false hc))
          | ge => exact lv_icmp_ge hx hb hdec ht (fun hc => take (decide_eq_true hc)) (fun hc => fall (decide_eq_false hc))
          | gt => exact lv_icmp_gt hx hb hdec ht (fun hc => take (decide_eq_true hc)) (fun hc => fall (decide_eq_false hc))
          | le => exact lv_icmp_le hx hb hdec ht (fun hc => take (decide_eq_true hc)) (fun hc => fall (decide_eq_false hc))
        · cases h
      · -- ifCond
        rename_i cnd off
        obtain rfl : len = 3 := of_decide_eq_true hlen
        have h0 : 0 ≤ (pc0 : Int) + off := of_decide_eq_true hT
        have ht : (pc0 : Int) + off = (((pc0 : Int) + off).toNat : Int) := (Int.toNat_of_nonneg h0).symm
        split at h
        · rename_i x st1
          intro cA H locs cells slots lsA hA
          have fall : dm_cmp cnd x 0 = false → W p l e R s m args below meth c H locs cells slots Q (F0 m (pc0 + 3) lsA (dm_sm base ext st1)) := fun hc => by
            rw [hc] at h
            exact ih k (pc0 + 3) _ _ _ hsk h cA H locs cells slots lsA hA
          have take : dm_cmp cnd x 0 = true → W p l e R s m args below meth c H locs cells slots Q (F0 m ((pc0 : Int) + off).toNat lsA (dm_sm base ext st1)) := fun hc => by
            rw [hc] at h
            obtain ⟨tgt, ht2, hg⟩ := jmp off _ _ _ h
            have e9 : ((pc0 : Int) + off).toNat = tgt := by omega
            rw [e9]
            exact hg cA H locs cells slots lsA hA
          cases cnd with
          | eq => exact lv_if_eq hx hb hdec ht (fun hc => take (decide_eq_true hc)) (fun hc => fall (decide_eq_false hc))
          | ne => exact lv_if_ne hx hb hdec ht (fun hc => take (decide_eq_true hc)) (fun hc => fall (decide_eq_false (fun z => z hc)))
          | lt => exact lv_if_lt hx hb hdec ht (fun hc => take (decide_eq_true hc)) (fun hc => fall (decide_eq_false hc))
          | ge => exact lv_if_ge hx hb hdec ht (fun hc => take (decide_eq_true hc)) (fun hc => fall (decide_eq_false hc))
          | gt => exact lv_if_gt hx hb hdec ht (fun hc => take (decide_eq_true hc)) (fun hc => fall (decide_eq_false hc))
          | le => exact lv_if_le hx hb hdec ht (fun hc => take (decide_eq_true hc)) (fun hc => fall (decide_eq_false hc))
        · cases h
      · -- ifnull
        rename_i off
        obtain rfl : len = 3 := of_decide_eq_true hlen
        split at h
        · intro cA H locs cells slots lsA hA
          obtain ⟨tgt, ht2, hg⟩ := jmp off _ _ _ h
          exact lv_ifnullN hx hb hdec ht2 (hg cA H locs cells slots lsA hA)
        · intro cA H locs cells slots lsA hA
          exact lv_ifnull hx hb hdec (ih k (pc0 + 3) _ _ _ hsk h cA H locs cells slots lsA hA)
        · intro cA H locs cells slots lsA hA
          exact lv_ifnull hx hb hdec (ih k (pc0 + 3) _ _ _ hsk h cA H locs cells slots lsA hA)
        · cases h
      · -- ifnonnull
        rename_i off
        obtain rfl : len = 3 := of_decide_eq_true hlen
        split at h
        · intro cA H locs cells slots lsA hA
          exact lv_ifnonnullN hx hb hdec (ih k (pc0 + 3) _ _ _ hsk h cA H locs cells slots lsA hA)
        · intro cA H locs cells slots lsA hA
          obtain ⟨tgt, ht2, hg⟩ := jmp off _ _ _ h
          exact lv_ifnonnull hx hb hdec ht2 (hg cA H locs cells slots lsA hA)
        · intro cA H locs cells slots lsA hA
          obtain ⟨tgt, ht2, hg⟩ := jmp off _ _ _ h
          exact lv_ifnonnull hx hb hdec ht2 (hg cA H locs cells slots lsA hA)
        · cases h
      · -- if_acmpne
        rename_i off
        obtain rfl : len = 3 := of_decide_eq_true hlen
        have h0 : 0 ≤ (pc0 : Int) + off := of_decide_eq_true hT
        have ht : (pc0 : Int) + off = (((pc0 : Int) + off).toNat : Int) := (Int.toNat_of_nonneg h0).symm
        split at h
        · rename_i y st1
          split at h
          · intro cA H locs cells slots lsA hA
            obtain ⟨tgt, ht2, hg⟩ := jmp off _ _ _ h
            refine lv_acmp_ne (rx := none) (ry := some (ext y)) hx hb hdec ht2 (fun _ => hg cA H locs cells slots lsA hA) (fun hc => by cases hc)
          · cases h
        · rename_i y x st1
          split at h
          · rename_i hxy
            intro cA H locs cells slots lsA hA
            refine lv_acmp_ne (rx := some (ext x)) (ry := some (ext y)) hx hb hdec ht (fun hc => ?_) (fun hc => ?_)
            · have hne : ¬ x = y := fun z => hc (by rw [z])
              rw [if_neg hne] at h
              obtain ⟨tgt, ht2, hg⟩ := jmp off _ _ _ h
              have e9 : ((pc0 : Int) + off).toNat = tgt := by omega
              rw [e9]
              exact hg cA H locs cells slots lsA hA
            · have he : x = y := hK.2.2.2.1.2.1 x y hxy.2 hxy.1 (Option.some.inj hc)
              rw [if_pos he] at h
              exact ih k (pc0 + 3) _ _ _ hsk h cA H locs cells slots lsA hA
          · cases h
        · cases h
      · -- tableswitch
        rename_i dflt lo hi offs
        split at h
        · rename_i x st1
          split at h
          · rename_i hc
            obtain ⟨tgt, ht2, hg⟩ := jmp dflt _ _ _ h
            intro cA H locs cells slots lsA hA
            exact lv_tableOut hx hb hdec hc ht2 (hg cA H locs cells slots lsA hA)
          · rename_i hc
            split at h
            · rename_i off ho9
              obtain ⟨tgt, ht2, hg⟩ := jmp off _ _ _ h
              intro cA H locs cells slots lsA hA
              exact lv_tableIn hx hb hdec (fun z => hc (Or.inl z)) (fun z => hc (Or.inr z)) ho9 ht2 (hg cA H locs cells slots lsA hA)
            · cases h
        · cases h
      · obtain rfl : len = 3 := of_decide_eq_true hlen
        split at h
        · rename_i hq
          have hle := dm_exec_le (S := S) hcall _ _ _ _ _ _ _ h
          exact hinv _ _ _ _ _ _ _ _ _ _ ho (Or.inl ⟨_, rfl⟩) hq (Nat.le_trans hle.1 hRc) (Nat.le_trans hle.2 hRs) (ih k (pc0 + 3) _ _ _ hsk h)
        · cases h
      · obtain rfl : len = 3 := of_decide_eq_true hlen
        split at h
        · rename_i hq
          have hle := dm_exec_le (S := S) hcall _ _ _ _ _ _ _ h
          exact hinv _ _ _ _ _ _ _ _ _ _ ho (Or.inr (Or.inl ⟨_, rfl⟩)) hq (Nat.le_trans hle.1 hRc) (Nat.le_trans hle.2 hRs) (ih k (pc0 + 3) _ _ _ hsk h)
        · cases h
      · obtain rfl : len = 3 := of_decide_eq_true hlen
        split at h
        · rename_i hq
          have hle := dm_exec_le (S := S) hcall _ _ _ _ _ _ _ h
          exact hinv _ _ _ _ _ _ _ _ _ _ ho (Or.inr (Or.inr ⟨_, rfl⟩)) hq (Nat.le_trans hle.1 hRc) (Nat.le_trans hle.2 hRs) (ih k (pc0 + 3) _ _ _ hsk h)
        · cases h
      · split at h
        · rename_i hq
          have hle := dm_exec_le (S := S) hcall _ _ _ _ _ _ _ h
          exact dm_step Cx hini hT0 hoI hq (Nat.le_trans hle.1 hRc) (Nat.le_trans hle.2 hRs) (ih k (pc0 + len) _ _ _ hsk h)
        · cases h
end DMBA
