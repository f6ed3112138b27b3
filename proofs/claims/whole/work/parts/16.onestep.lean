/-- the highest local that an instruction writes -/
def dm_sl (i : Instr) : Nat := match i with
  | .istore n => n
  | .istore_n n => n
  | .astore n => n
  | .astore_n n => n
  | .lstore n => n + 1
  | .lstore_n n => n + 1
  | .iinc n _ => n
  | _ => 0
theorem dm_str {own : String} {ix : Nat} {w : Int} (h : dm_tx (w.toNat) = some (.stringRef own ix "()<=+-*;")) : own = RX9 ∧ ix = 55 := by
  have hm := dm_tx_mem h
  have h0 : ∀ x ∈ tables_1.filter (fun w => match w with | .stringRef _ _ _ => true | _ => false), x = .stringRef RX9 55 "()<=+-*;" ∨ x = .stringRef RX11 250 "a lease is of two who are in" := by decide +kernel
  rcases h0 _ (List.mem_filter.mpr ⟨hm, rfl⟩) with h1 | h1
  · cases h1; exact ⟨rfl, rfl⟩
  · injection h1 with _ _ h3
    exact absurd h3 (by decide)
/-! ONE STEP: every instruction that goes on to the next. -/
section DMT
variable {p : Program} {l : Launch} {e : Env} {R : Room} {s : State} {m : MethodId} {args : Array Value} {below : List Frame} {meth : Method} {c : Code} {Q : State → Prop}
variable {cc : ByteArray} {own : String} {nL : Nat} {S : dm_Sc} {base : Nat} {D : va_G} {ext : Nat → Nat} {σ σ' : dm_St} {ls ls' : dm_Lv} {st st' : List Value} {pc c0 s0 : Nat}
theorem dm_lsz {lsA : Array Slot} {i : Nat} {v : Value} {base : Nat} {ext : Nat → Nat} {lv : List (Nat × Value)} (h : lv_has lsA nL lv) (hi : i < nL) : i < nL := hi
set_option maxHeartbeats 4000000 in
theorem dm_step {i : Instr} {len : Nat} {aux : List Int} {init : Bool} (Cx : dm_Cx p s m args c cc own nL S base D ext c0) (hini : init = true → meth.name = "<init>") (hst : dm_sl i < nL) (hok : dm_okI own cc init (pc, i, len, aux) = true) (h : dm_sx S i aux ls st σ = some (ls', st', σ')) (hRc : dm_cost σ' ≤ c0 + R.cells) (hRs : dm_slo σ' ≤ s0 + R.slots) (kk : dm_Go p l e R s m args below meth c Q nL base D ext c0 s0 (pc + len) ls' st' σ') : dm_Go p l e R s m args below meth c Q nL base D ext c0 s0 pc ls st σ := by
  simp only [dm_okI, Bool.and_eq_true] at hok
  obtain ⟨hdec0, hlen, hrest⟩ := hok
  have hdec : decode cc pc = .ok (i, len) := of_decide_eq_true hdec0
  clear hdec0
  obtain ⟨hx, hb, hml, hown, hts, hK, hsz⟩ := id Cx
  unfold dm_sx at h
  split at h
  · obtain rfl : len = 1 := of_decide_eq_true hlen
    cases h
    intro cA H locs cells slots lsA hA
    exact lv_null hx hb hdec (kk cA H locs cells slots lsA hA)
  · obtain rfl : len = 1 := of_decide_eq_true hlen
    cases h
    intro cA H locs cells slots lsA hA
    exact lv_iconst hx hb hdec rfl (kk cA H locs cells slots lsA hA)
  · obtain rfl : len = 2 := of_decide_eq_true hlen
    cases h
    intro cA H locs cells slots lsA hA
    exact lv_bipush hx hb hdec rfl (kk cA H locs cells slots lsA hA)
  · obtain rfl : len = 3 := of_decide_eq_true hlen
    cases h
    intro cA H locs cells slots lsA hA
    exact lv_sipush hx hb hdec rfl (kk cA H locs cells slots lsA hA)
  · obtain rfl : len = 1 := of_decide_eq_true hlen
    cases h
    intro cA H locs cells slots lsA hA
    exact lv_lconst hx hb hdec rfl (kk cA H locs cells slots lsA hA)
  · obtain rfl : len = 2 := of_decide_eq_true hlen
    split at h
    · rename_i v w
      cases h
      intro cA H locs cells slots lsA hA
      exact lv_ldc hx hb hown (dm_tb hts (of_decide_eq_true hrest) rfl) hdec (kk cA H locs cells slots lsA hA)
    · rename_i w
      cases h
      intro cA H locs cells slots lsA hA
      have hs := hK.2.2.2.1.2.2.2.2.1
      have hw := of_decide_eq_true hrest
      obtain ⟨e1, e2⟩ := dm_str hw
      subst e1
      subst e2
      exact va_ldcS hx hb hown hs hdec (kk cA H locs cells slots lsA hA)
    · cases h
  · obtain rfl : len = 3 := of_decide_eq_true hlen
    split at h
    · rename_i v w
      cases h
      intro cA H locs cells slots lsA hA
      exact lv_ldcw hx hb hown (dm_tb hts (of_decide_eq_true hrest) rfl) hdec (kk cA H locs cells slots lsA hA)
    · cases h
  · obtain rfl : len = 3 := of_decide_eq_true hlen
    split at h
    · rename_i v w
      cases h
      intro cA H locs cells slots lsA hA
      match w, hrest with
      | [w1], hrest => exact lv_ldc2 hx hb hown (dm_tb hts (of_decide_eq_true hrest) rfl) hdec (kk cA H locs cells slots lsA hA)
    · cases h
  · obtain rfl : len = 2 := of_decide_eq_true hlen
    refine dm_g_ld (n := 2) h kk (fun H locs cells slots lsA v hv hl rest hk => ?_)
    cases v <;> first | (simp [dm_kI] at hv; done) | exact lv_iload hx hb hdec hl hk
  · obtain rfl : len = 1 := of_decide_eq_true hlen
    refine dm_g_ld (n := 1) h kk (fun H locs cells slots lsA v hv hl rest hk => ?_)
    cases v <;> first | (simp [dm_kI] at hv; done) | exact lv_iload_n hx hb hdec rfl hl hk
  · obtain rfl : len = 2 := of_decide_eq_true hlen
    refine dm_g_ld (n := 2) h kk (fun H locs cells slots lsA v hv hl rest hk => ?_)
    cases v <;> first | (simp [dm_kL] at hv; done) | exact lv_lload hx hb hdec hl hk
  · obtain rfl : len = 1 := of_decide_eq_true hlen
    refine dm_g_ld (n := 1) h kk (fun H locs cells slots lsA v hv hl rest hk => ?_)
    cases v <;> first | (simp [dm_kL] at hv; done) | exact lv_lload_n hx hb hdec rfl hl hk
  · obtain rfl : len = 2 := of_decide_eq_true hlen
    refine dm_g_ld (n := 2) h kk (fun H locs cells slots lsA v hv hl rest hk => ?_)
    cases v <;> first | (simp [dm_kA] at hv; done) | exact lv_aload hx hb hdec hl hk
  · obtain rfl : len = 1 := of_decide_eq_true hlen
    refine dm_g_ld (n := 1) h kk (fun H locs cells slots lsA v hv hl rest hk => ?_)
    cases v <;> first | (simp [dm_kA] at hv; done) | exact lv_aload_n hx hb hdec rfl hl hk
  · obtain rfl : len = 2 := of_decide_eq_true hlen
    refine dm_g_st1 (n := 2) h kk (fun H locs cells slots lsA v lv hv hl rest hk => ?_)
    cases v <;> first | (simp [dm_kI] at hv; done) | exact lv_istore hx hb hdec hl hst rfl hk
  · obtain rfl : len = 1 := of_decide_eq_true hlen
    refine dm_g_st1 (n := 1) h kk (fun H locs cells slots lsA v lv hv hl rest hk => ?_)
    cases v <;> first | (simp [dm_kI] at hv; done) | exact lv_istore_n hx hb hdec rfl hl hst rfl hk
  · obtain rfl : len = 2 := of_decide_eq_true hlen
    refine dm_g_st1 (n := 2) h kk (fun H locs cells slots lsA v lv hv hl rest hk => ?_)
    cases v <;> first | (simp [dm_kA] at hv; done) | exact lv_astore hx hb hdec hl hst rfl hk
  · obtain rfl : len = 1 := of_decide_eq_true hlen
    refine dm_g_st1 (n := 1) h kk (fun H locs cells slots lsA v lv hv hl rest hk => ?_)
    cases v <;> first | (simp [dm_kA] at hv; done) | exact lv_astore_n hx hb hdec rfl hl hst rfl hk
  · obtain rfl : len = 2 := of_decide_eq_true hlen
    exact dm_g_st2 (n := 2) h kk (fun H locs cells slots lsA v lv hl rest hk => lv_lstore hx hb hdec hl hst rfl hk)
  · obtain rfl : len = 1 := of_decide_eq_true hlen
    exact dm_g_st2 (n := 1) h kk (fun H locs cells slots lsA v lv hl rest hk => lv_lstore_n hx hb hdec rfl hl hst rfl hk)
  · obtain rfl : len = 3 := of_decide_eq_true hlen
    split at h
    · rename_i x hx9
      cases h
      intro cA H locs cells slots lsA hA
      obtain ⟨k9, hk9⟩ := List.getElem?_of_mem (show (_, Value.int x) ∈ dm_lm base ext ls from List.mem_map.mpr ⟨(_, .int x), dm_get_mem hx9, rfl⟩)
      refine lv_iinc hx hb hdec hA.2.2.1 hk9 rfl hst rfl (fun lsB hB => ?_)
      refine kk cA H locs cells slots lsB ⟨hA.1, hA.2.1, ?_, hA.2.2.2⟩
      rw [← dm_lput1]
      exact hB
    · cases h
  · obtain rfl : len = 1 := of_decide_eq_true hlen
    exact dm_g_b (n := 1) h kk (fun H locs cells slots lsA x y rest hk => lv_iadd hx hb hdec hk)
  · obtain rfl : len = 1 := of_decide_eq_true hlen
    exact dm_g_b (n := 1) h kk (fun H locs cells slots lsA x y rest hk => lv_isub hx hb hdec hk)
  · obtain rfl : len = 1 := of_decide_eq_true hlen
    exact dm_g_b (n := 1) h kk (fun H locs cells slots lsA x y rest hk => lv_imul hx hb hdec hk)
  · obtain rfl : len = 1 := of_decide_eq_true hlen
    exact dm_g_b (n := 1) h kk (fun H locs cells slots lsA x y rest hk => lv_iand hx hb hdec hk)
  · obtain rfl : len = 1 := of_decide_eq_true hlen
    exact dm_g_b (n := 1) h kk (fun H locs cells slots lsA x y rest hk => lv_ior hx hb hdec hk)
  · obtain rfl : len = 1 := of_decide_eq_true hlen
    exact dm_g_b (n := 1) h kk (fun H locs cells slots lsA x y rest hk => lv_ixor hx hb hdec hk)
  · obtain rfl : len = 1 := of_decide_eq_true hlen
    exact dm_g_b (n := 1) h kk (fun H locs cells slots lsA x y rest hk => lv_ishl hx hb hdec hk)
  · obtain rfl : len = 1 := of_decide_eq_true hlen
    exact dm_g_b (n := 1) h kk (fun H locs cells slots lsA x y rest hk => lv_ishr hx hb hdec hk)
  · obtain rfl : len = 1 := of_decide_eq_true hlen
    exact dm_g_b (n := 1) h kk (fun H locs cells slots lsA x y rest hk => lv_iushr hx hb hdec rfl hk)
  · obtain rfl : len = 1 := of_decide_eq_true hlen
    exact dm_g_b0 (n := 1) h kk (fun H locs cells slots lsA x y rest hy hk => lv_idiv hx hb hdec hy hk)
  · obtain rfl : len = 1 := of_decide_eq_true hlen
    exact dm_g_b0 (n := 1) h kk (fun H locs cells slots lsA x y rest hy hk => lv_irem hx hb hdec hy hk)
  · obtain rfl : len = 1 := of_decide_eq_true hlen
    exact dm_g_bl (n := 1) h kk (fun H locs cells slots lsA x y rest hk => lv_ladd hx hb hdec hk)
  · obtain rfl : len = 1 := of_decide_eq_true hlen
    exact dm_g_bl (n := 1) h kk (fun H locs cells slots lsA x y rest hk => lv_lsub hx hb hdec hk)
  · obtain rfl : len = 1 := of_decide_eq_true hlen
    exact dm_g_bl (n := 1) h kk (fun H locs cells slots lsA x y rest hk => lv_lmul hx hb hdec hk)
  · obtain rfl : len = 1 := of_decide_eq_true hlen
    exact dm_g_bl (n := 1) h kk (fun H locs cells slots lsA x y rest hk => lv_land hx hb hdec hk)
  · obtain rfl : len = 1 := of_decide_eq_true hlen
    exact dm_g_bl (n := 1) h kk (fun H locs cells slots lsA x y rest hk => lv_lor hx hb hdec hk)
  · obtain rfl : len = 1 := of_decide_eq_true hlen
    exact dm_g_bl0 (n := 1) h kk (fun H locs cells slots lsA x y rest hy hk => lv_ldiv hx hb hdec hy hk)
  · obtain rfl : len = 1 := of_decide_eq_true hlen
    exact dm_g_bl0 (n := 1) h kk (fun H locs cells slots lsA x y rest hy hk => lv_lrem hx hb hdec hy hk)
  · obtain rfl : len = 1 := of_decide_eq_true hlen
    exact dm_g_bs (n := 1) h kk (fun H locs cells slots lsA x y rest hk => lv_lshl hx hb hdec rfl hk)
  · obtain rfl : len = 1 := of_decide_eq_true hlen
    exact dm_g_bs (n := 1) h kk (fun H locs cells slots lsA x y rest hk => lv_lshr hx hb hdec rfl hk)
  · obtain rfl : len = 1 := of_decide_eq_true hlen
    split at h
    · cases h
      intro cA H locs cells slots lsA hA
      exact W.lcmp hx hb hdec (kk cA H locs cells slots lsA hA)
    · cases h
  · obtain rfl : len = 1 := of_decide_eq_true hlen
    split at h
    · cases h
      intro cA H locs cells slots lsA hA
      exact lv_i2l hx hb hdec rfl (kk cA H locs cells slots lsA hA)
    · cases h
  · obtain rfl : len = 1 := of_decide_eq_true hlen
    split at h
    · cases h
      intro cA H locs cells slots lsA hA
      exact lv_l2i hx hb hdec rfl (kk cA H locs cells slots lsA hA)
    · cases h
  · obtain rfl : len = 1 := of_decide_eq_true hlen
    split at h
    · cases h
      intro cA H locs cells slots lsA hA
      exact lv_i2b hx hb hdec rfl (kk cA H locs cells slots lsA hA)
    · cases h
  · obtain rfl : len = 1 := of_decide_eq_true hlen
    split at h
    · cases h
      intro cA H locs cells slots lsA hA
      exact lv_i2c hx hb hdec rfl (kk cA H locs cells slots lsA hA)
    · cases h
  · obtain rfl : len = 1 := of_decide_eq_true hlen
    split at h
    · split at h
      · rename_i hc
        cases h
        intro cA H locs cells slots lsA hA
        exact lv_dup hx hb hdec (by rw [dm_cv_cat]; exact hc) (kk cA H locs cells slots lsA hA)
      · cases h
    · cases h
  · obtain rfl : len = 1 := of_decide_eq_true hlen
    split at h
    · split at h
      · rename_i hc
        cases h
        intro cA H locs cells slots lsA hA
        exact lv_dup2_11 hx hb hdec (by rw [dm_cv_cat]; exact hc.1) (by rw [dm_cv_cat]; exact hc.2) (kk cA H locs cells slots lsA hA)
      · cases h
    · cases h
  · obtain rfl : len = 1 := of_decide_eq_true hlen
    split at h
    · split at h
      · rename_i hc
        cases h
        intro cA H locs cells slots lsA hA
        exact lv_pop hx hb hdec (by rw [dm_cv_cat]; exact hc) (kk cA H locs cells slots lsA hA)
      · cases h
    · cases h
  · obtain rfl : len = 3 := of_decide_eq_true hlen
    exact dm_g_gf Cx hrest hdec h kk
  · obtain rfl : len = 3 := of_decide_eq_true hlen
    simp only [Bool.and_eq_true] at hrest
    exact dm_g_pf Cx hini hrest.1 hrest.2 hdec h kk
  · obtain rfl : len = 3 := of_decide_eq_true hlen
    split at h
    · rename_i j w
      have hw : ∃ ns w1, w = [ns, w1] := by
        match w, hrest with
        | [ns, w1], _ => exact ⟨ns, w1, rfl⟩
      obtain ⟨ns, w1, rfl⟩ := hw
      simp only [dm_okS, Bool.and_eq_true, decide_eq_true_eq] at hrest
      obtain ⟨hj0, hrest⟩ := hrest
      have hX := hK.2.2.2.1
      split at h
      · rename_i hj
        subst hj
        cases h
        intro cA H locs cells slots lsA hA
        rw [if_neg (by decide), if_pos (by decide)] at hrest
        rcases dm_lkF hts hK.2.2.1 hrest with ⟨-, hl⟩ | hl
        · exact va_gets hx hb hX.2.2.2.2.2.1 hA.2.1 hown hl (fun _ h => h) hdec (kk cA H locs cells slots lsA hA)
        · exact va_getsN hx hb hX.2.2.2.2.2.1 hA.2.1 hown hl (fun _ h => h) hdec (kk cA H locs cells slots lsA hA)
      · rename_i hj
        cases h
        intro cA H locs cells slots lsA hA
        split at hrest
        · rename_i h100
          rcases dm_lkF hts hK.2.2.1 hrest with ⟨-, hl⟩ | hl
          · refine va_gets hx hb hX.2.2.1.1 hA.2.1 hown hl (fun _ h => h) hdec ?_
            have h9 := kk cA H locs cells slots lsA hA
            simp only [dm_sm, List.map_cons, dm_cv, h100] at h9
            exact h9
          · refine va_getsN hx hb hX.2.2.1.1 hA.2.1 hown hl (fun _ h => h) hdec ?_
            have h9 := kk cA H locs cells slots lsA hA
            simp only [dm_sm, List.map_cons, dm_cv, h100] at h9
            exact h9
        · rw [if_neg (by omega)] at hrest
          simp only [Bool.and_eq_true, decide_eq_true_eq] at hrest
          rcases dm_lkF hts hK.2.2.1 hrest.2 with ⟨-, hl⟩ | hl
          · exact va_gets hx hb (hX.1 _ hrest.1).1 hA.2.1 hown hl (fun _ h => h) hdec (kk cA H locs cells slots lsA hA)
          · exact va_getsN hx hb (hX.1 _ hrest.1).1 hA.2.1 hown hl (fun _ h => h) hdec (kk cA H locs cells slots lsA hA)
    · cases h
  · obtain rfl : len = 1 := of_decide_eq_true hlen
    exact dm_g_ild Cx hdec h kk
  · obtain rfl : len = 1 := of_decide_eq_true hlen
    exact dm_g_lld Cx hdec h kk
  · obtain rfl : len = 1 := of_decide_eq_true hlen
    exact dm_g_cld Cx hdec h kk
  · obtain rfl : len = 1 := of_decide_eq_true hlen
    exact dm_g_zld Cx hdec h kk
  · obtain rfl : len = 1 := of_decide_eq_true hlen
    exact dm_g_ald Cx hdec h kk
  · obtain rfl : len = 1 := of_decide_eq_true hlen
    exact dm_g_ast Cx (Or.inl ⟨rfl, rfl⟩) hdec h kk
  · obtain rfl : len = 1 := of_decide_eq_true hlen
    exact dm_g_ast Cx (Or.inr (Or.inl ⟨rfl, rfl⟩)) hdec h kk
  · obtain rfl : len = 1 := of_decide_eq_true hlen
    exact dm_g_ast Cx (Or.inr (Or.inr ⟨rfl, rfl⟩)) hdec h kk
  · obtain rfl : len = 1 := of_decide_eq_true hlen
    exact dm_g_last Cx hdec h kk
  · obtain rfl : len = 1 := of_decide_eq_true hlen
    exact dm_g_aast Cx hdec h kk
  · obtain rfl : len = 1 := of_decide_eq_true hlen
    exact dm_g_len Cx hdec h kk
  · obtain rfl : len = 3 := of_decide_eq_true hlen
    split at h
    · rename_i ci w
      match w, hrest with
      | [w1], hrest =>
        simp only at hrest
        split at hrest
        · rename_i q hq
          exact dm_g_new Cx hq (of_decide_eq_true hrest) hdec h hRc hRs kk
        · cases hrest
    · cases h
  · obtain rfl : len = 2 := of_decide_eq_true hlen
    exact dm_g_newa Cx (Or.inl ⟨rfl, rfl⟩) hdec h hRc hRs kk
  · obtain rfl : len = 2 := of_decide_eq_true hlen
    exact dm_g_newa Cx (Or.inr (Or.inl ⟨rfl, rfl⟩)) hdec h hRc hRs kk
  · obtain rfl : len = 2 := of_decide_eq_true hlen
    exact dm_g_newa Cx (Or.inr (Or.inr (Or.inl ⟨rfl, rfl⟩))) hdec h hRc hRs kk
  · obtain rfl : len = 2 := of_decide_eq_true hlen
    exact dm_g_newa Cx (Or.inr (Or.inr (Or.inr ⟨rfl, rfl⟩))) hdec h hRc hRs kk
  · obtain rfl : len = 3 := of_decide_eq_true hlen
    split at h
    · rename_i t w
      match w, hrest with
      | [w1], hrest => exact dm_g_newq Cx (of_decide_eq_true hrest) hdec h hRc hRs kk
    · cases h
  · obtain rfl : len = 4 := of_decide_eq_true hlen
    split at h
    · split at h
      · rename_i hc
        cases h
        match aux, hrest with
        | [w1], hrest =>
          simp only [Bool.and_eq_true, decide_eq_true_eq] at hrest
          obtain ⟨hd, hw⟩ := hrest
          subst hd
          exact dm_g_mna Cx hw hdec hc.1 hc.2.1 hc.2.2.1 hc.2.2.2.1 hc.2.2.2.2 hRc hRs kk
      · cases h
    · cases h
  · cases h
end DMT
