/-! PulseRentLaw.lease and share: they catch. -/
def lx_OK2 (y2 : MethodName) (cc2 : ByteArray) (ix : Nat) (y : MethodName) (cc : ByteArray) : Prop := (Cond.codeWith y2 cc2 5 (some .int) [(0, 10, 13, 13)] ∈ dm_GW ∧ plainName y2.cls = true ∧ y2.cls = RL) ∧ (Cond.methodLink RL ix y ∈ dm_GW ∧ Cond.instanceMethod y ∈ dm_GW ∧ Cond.selects RX11 y y ∈ dm_GW ∧ Cond.initialized y.cls ∈ dm_GW ∧ Cond.classLink RL 13 lx_N ∈ dm_GW) ∧ (y.cls ≠ "java/lang/invoke/MethodHandle" ∧ y.cls ≠ "java/lang/invoke/VarHandle" ∧ (parseMethodDescriptor y.desc).map (fun d => d.parameters.length) = some 2) ∧
  (decode cc2 5 = .ok (.invokevirtual ix, 3) ∧ decode cc2 10 = .ok (.goto 7, 3) ∧ decode cc2 13 = .ok (.astore 4, 2) ∧ decode cc2 15 = .ok (.iconst 1, 1) ∧ decode cc2 16 = .ok (.ireturn, 1) ∧ decode cc2 18 = .ok (.ireturn, 1)) ∧
  (dm_okI RL cc2 false (0, .aload_n 3, 1, []) = true ∧ dm_okI RL cc2 false (1, .iconst 0, 1, []) = true ∧ dm_okI RL cc2 false (2, .aload_n 0, 1, []) = true ∧ dm_okI RL cc2 false (3, .iload_n 1, 1, []) = true ∧ dm_okI RL cc2 false (4, .iload_n 2, 1, []) = true ∧ dm_okI RL cc2 false (8, .i2l, 1, []) = true ∧ dm_okI RL cc2 false (9, .lastore, 1, []) = true ∧ dm_okI RL cc2 false (17, .iconst 0, 1, []) = true)
set_option maxRecDepth 100000 in
theorem lx_OK2l : lx_OK2 yL_lease cL_lease 7 yX11_lease cX11_lease := ⟨⟨lx_L6.2.2.1, by decide, rfl⟩, by decide +kernel, by decide +kernel, by decide +kernel, by decide +kernel⟩
set_option maxRecDepth 100000 in
theorem lx_OK2s : lx_OK2 yL_share cL_share 15 yX11_share cX11_share := ⟨⟨lx_L6.2.2.2, by decide, rfl⟩, by decide +kernel, by decide +kernel, by decide +kernel, by decide +kernel⟩
theorem lx_blind {S : dm_Sc} {base : Nat} {D : va_G} {ext : Nat → Nat} {sa : Nat} {σ : dm_St} {as : List Value} : FrameBlind (lx_Pc S base D ext sa σ as) := by
  intro a U g mk h
  obtain ⟨h1, ⟨h2, ⟨cA, h3⟩, h4⟩, h5⟩ := h
  exact ⟨h1, ⟨dm_K.same (u := U) rfl h2, ⟨cA, dm_Wd.moved (u := U) (Vm.Alike.refl U.vm) h3⟩, h4⟩, lx_K.same (u := U) rfl h5⟩
section LXN
variable {p : Program} {l : Launch} {e : Env} {R : Room} {s : State} {m : MethodId} {args : Array Value} {below : List Frame} {meth : Method} {c : Code} {Q : State → Prop} {H : Heap} {locs : List Loc} {cells slots : Nat} {lsA : Array Slot} {cA : Nat → ClassId} {ls : dm_Lv}
variable {cc cc2 : ByteArray} {y y2 : MethodName} {ix : Nat} {S : dm_Sc} {base : Nat} {D : va_G} {ext : Nat → Nat} {σ σ1 : dm_St} {c0 s0 sa : Nat}
theorem lx_pre2 (ok : lx_OK2 y2 cc2 ix y cc) (Cx : dm_Cx p s m args c cc2 RL 5 S base D ext c0) {x ou : Nat} {v w : Int32} (hRc : dm_cost σ ≤ c0 + R.cells) (hRs : dm_slo σ ≤ s0 + R.slots)
    (k5 : dm_Go p l e R s m args below meth c Q 5 base D ext c0 s0 5 (lvs [.ref x, .int v, .int w, .ref ou]) [.int w, .int v, .ref x, .int 0, .ref ou] σ) :
    dm_Go p l e R s m args below meth c Q 5 base D ext c0 s0 0 (lvs [.ref x, .int v, .int w, .ref ou]) [] σ := by
  obtain ⟨-, -, -, -, o0, o1, o2, o3, o4, -⟩ := ok
  refine dm_step (i := .aload_n 3) (len := 1) (aux := []) (init := false) (ls' := lvs [.ref x, .int v, .int w, .ref ou]) (st' := [.ref ou]) (σ' := σ) Cx (fun h => by cases h) (by decide) o0 rfl hRc hRs ?_
  refine dm_step (i := .iconst 0) (len := 1) (aux := []) (init := false) (ls' := lvs [.ref x, .int v, .int w, .ref ou]) (st' := [.int 0, .ref ou]) (σ' := σ) Cx (fun h => by cases h) (by decide) o1 rfl hRc hRs ?_
  refine dm_step (i := .aload_n 0) (len := 1) (aux := []) (init := false) (ls' := lvs [.ref x, .int v, .int w, .ref ou]) (st' := [.ref x, .int 0, .ref ou]) (σ' := σ) Cx (fun h => by cases h) (by decide) o2 rfl hRc hRs ?_
  refine dm_step (i := .iload_n 1) (len := 1) (aux := []) (init := false) (ls' := lvs [.ref x, .int v, .int w, .ref ou]) (st' := [.int v, .ref x, .int 0, .ref ou]) (σ' := σ) Cx (fun h => by cases h) (by decide) o3 rfl hRc hRs ?_
  exact dm_step (i := .iload_n 2) (len := 1) (aux := []) (init := false) (ls' := lvs [.ref x, .int v, .int w, .ref ou]) (st' := [.int w, .int v, .ref x, .int 0, .ref ou]) (σ' := σ) Cx (fun h => by cases h) (by decide) o4 rfl hRc hRs k5
theorem lx_run2 (ok : lx_OK2 y2 cc2 ix y cc) (hcd : Cond.code y cc 3 (some .int) ∈ dm_GW) (hyc : y.cls = RX11) (Cx : dm_Cx p s m args c cc2 RL 5 S base D ext c0) (hX : lx_K base sa s s.heap) {d : Nat} (hR : dm_rm (d + 2) R.cells R.slots = R) {x ou : Nat} {v w : Int32} (hsx : (dm_sh σ)[x]? = some (.inl 10)) {mc ms : Nat} {Qc : Array Value → State → Outcome → State → Prop} {XC : String → State → State → Prop} (hM : vx_Met l y (lx_ws y cc) (dm_rm (d + 1) mc ms) (lx_Pc S base D ext sa σ [.ref x, .int v, .int w]) Qc XC mc ms (dm_A base))
    (hA : dm_At s 5 base D ext c0 s0 cA σ ls H locs cells slots lsA) (hz : H.size ≤ s.heap.size + cells) (hf : cells + mc ≤ R.cells ∧ slots + ms ≤ R.slots) :
    vx_Run p l e R s m args below meth c H locs cells slots mc ms (F0 m 5 lsA (dm_sm base ext [.int w, .int v, .ref x, .int 0, .ref ou])) (dm_sm base ext [.int 0, .ref ou]) (Qc (Value.ref (base + x) :: [.int v, .int w]).toArray) XC (dm_A base) := by
  obtain ⟨-, ⟨w1, w2, w3, w4, -⟩, hd, ⟨d5, -⟩, -⟩ := ok
  obtain ⟨hx, hb, hml, hown, hts, hK, hsz⟩ := id Cx
  have hroom : (dm_rm (d + 1) mc ms).frames + 1 ≤ R.frames ∧ 8 + (3 + 11) + (dm_rm (d + 1) mc ms).locals ≤ R.locals := by
    rw [← hR]; simp only [dm_rm]; omega
  have hG : GoodIn dm_GW (lx_ws y cc) := by
    intro w' hw
    have hm : w' ∈ dm_GW := by
      rcases List.mem_cons.mp hw with rfl | hw
      · exact hcd
      · exact hw
    exact ⟨hm, good_of_word (List.mem_filter.mp hm).2⟩
  have hrecv := va_recv hK.2.1 hA.1.1 (ci := 10) rfl (dm_ws_at (base := base) (ext := ext) (cA := cA) hsx)
  refine vx_runV (C := RX11) (n := 2) (As := [.int v, .int w]) ⟨hx, hb, hml, hown, hts⟩ hM ⟨callB_of 2 hts hG rfl rfl rfl (hts _ w4) (hts _ w1) hd hroom, hts _ w2, hts _ w3⟩ ⟨lx_blind, hrecv, fun U hU hW => ?_⟩ rfl rfl hA.2.2.1.1 rfl (lv_room (dm_wait_sum (base := base) (ext := ext) (st := [.int 0, .ref ou]) rfl)) d5 hf
  have q := dm_pre (as := [.ref x, .int v, .int w]) Cx hA hz U hU hW
  refine ⟨rfl, ⟨q.2.1, q.2.2.1, q.2.2.2⟩, ?_⟩
  rw [hU]
  exact (hX.kept hA.2.1.2.1).warm hW
end LXN
