/-! The law's loop: what it rests on. -/
/-- shapes are only added -/
def dm_px (σ σ' : dm_St) : Prop := ∃ x, σ'.1 = σ.1 ++ x
theorem dm_px.rf (σ : dm_St) : dm_px σ σ := ⟨[], (List.append_nil _).symm⟩
theorem dm_px.tr {a b c : dm_St} (h1 : dm_px a b) (h2 : dm_px b c) : dm_px a c := by
  obtain ⟨x, hx⟩ := h1
  obtain ⟨y, hy⟩ := h2
  exact ⟨x ++ y, by rw [hy, hx, List.append_assoc]⟩
theorem dm_push_px (σ : dm_St) (x : dm_Sh) : dm_px σ (dm_push σ x) := ⟨[x], rfl⟩
theorem dm_mna_px (σ : dm_St) (n k : Nat) : dm_px σ (dm_mna n k σ) := ⟨_, (dm_mna_sh (σ := σ) n k).1⟩
theorem dm_new_px {ls ls' : dm_Lv} {st st' : List Value} {σ σ' : dm_St} {x : dm_Sh} (h : dm_new ls st σ x = some (ls', st', σ')) : dm_px σ σ' := by
  unfold dm_new at h
  split at h
  · cases h; exact dm_push_px σ x
  · cases h
theorem dm_newa_px {ls ls' : dm_Lv} {st st' : List Value} {σ σ' : dm_St} {t : Nat} (h : dm_newa ls st σ t = some (ls', st', σ')) : dm_px σ σ' := by
  obtain ⟨n, st1, -, -, -, -, -, -, rfl⟩ := dm_newa_facts h
  exact dm_push_px σ _
theorem dm_same_px {σ : dm_St} {f : Nat → Nat → Int32} {g : Nat → Nat → Int64} {k : Nat → Nat → Value} : dm_px σ (σ.1, σ.2.1, f, g, k) := ⟨[], (List.append_nil _).symm⟩
set_option maxHeartbeats 4000000 in
theorem dm_sx_px {S : dm_Sc} {i : Instr} {aux : List Int} {ls ls' : dm_Lv} {st st' : List Value} {σ σ' : dm_St} (h : dm_sx S i aux ls st σ = some (ls', st', σ')) : dm_px σ σ' := by
  unfold dm_sx at h
  split at h <;> first
    | (cases h; exact dm_px.rf _)
    | exact dm_newa_px h
    | (simp only [dm_ld, dm_st1, dm_st2, dm_b, dm_b0, dm_bl, dm_bl0, dm_bs, dm_gf, dm_ald, dm_aald, dm_len, dm_ast, dm_last, dm_aast] at h
       repeat' split at h
       all_goals first | (cases h; done) | (cases h; exact dm_same_px) | (cases h; exact dm_px.rf _))
    | (unfold dm_pf at h
       repeat' split at h
       all_goals first | (cases h; done) | (cases h; exact dm_same_px))
    | (split at h
       · exact dm_new_px h
       · cases h)
    | (split at h
       · exact dm_newa_px h
       · cases h)
    | (repeat' split at h
       all_goals first | (cases h; done) | (cases h; exact dm_px.rf _) | (cases h; exact dm_mna_px _ _ _))
theorem dm_inv_px {call : Nat → List Value → dm_St → dm_Rs} (hcall : ∀ mi as σ r σ', call mi as σ = some (r, σ') → dm_px σ σ') {aux : List Int} {ls ls' : dm_Lv} {st st' : List Value} {σ σ' : dm_St} (h : dm_inv call aux ls st σ = some (ls', st', σ')) : dm_px σ σ' := by
  unfold dm_inv at h
  split at h
  · dsimp only at h
    split at h
    · split at h
      · rename_i r σ1 hc
        cases h
        exact hcall _ _ _ _ _ hc
      · cases h
    · cases h
  · split at h
    · split at h
      · cases h; exact dm_px.rf _
      · cases h
    · cases h
  · unfold dm_acopy at h
    repeat' split at h
    all_goals first | (cases h; done) | (cases h; exact dm_same_px)
  · repeat' split at h
    all_goals first | (cases h; done) | (cases h; exact dm_px.rf _)
  · repeat' split at h
    all_goals first | (cases h; done) | (cases h; exact dm_px.rf _)
  · cases h
set_option maxHeartbeats 4000000 in
theorem dm_exec_px {S : dm_Sc} {call : Nat → List Value → dm_St → dm_Rs} (hcall : ∀ mi as σ r σ', call mi as σ = some (r, σ') → dm_px σ σ') {ret : Option FieldType} {code : List dm_Op} : ∀ (n : Nat) (k : List dm_Op) (ls : dm_Lv) (st : List Value) (σ : dm_St) (r : Option Value) (σ' : dm_St), dm_exec S call ret code n k ls st σ = some (r, σ') → dm_px σ σ'
  | 0, _, _, _, _, _, _, h => by simp [dm_exec] at h
  | n + 1, [], _, _, _, _, _, h => by simp [dm_exec] at h
  | n + 1, (pc, i, len, aux) :: k, ls, st, σ, r, σ', h => by
    have ih := dm_exec_px (S := S) hcall (ret := ret) (code := code) n
    unfold dm_exec at h
    split at h
    all_goals first
      | (split at h
         · rename_i hq
           exact dm_px.tr (dm_inv_px hcall hq) (ih _ _ _ _ _ _ h)
         · cases h)
      | (split at h
         · rename_i hq
           exact dm_px.tr (dm_sx_px hq) (ih _ _ _ _ _ _ h)
         · cases h)
      | exact ih _ _ _ _ _ _ h
      | (repeat' split at h
         all_goals first | (cases h; done) | (cases h; exact dm_px.rf _) | exact ih _ _ _ _ _ _ h)
theorem dm_run_px {S : dm_Sc} {tab : Nat → Option dm_Row} {n : Nat} : ∀ (d : Nat) (mi : Nat) (as : List Value) (σ : dm_St) (r : Option Value) (σ' : dm_St), dm_run S tab d n mi as σ = some (r, σ') → dm_px σ σ'
  | 0, _, _, _, _, _, h => by simp [dm_run] at h
  | d + 1, mi, as, σ, r, σ', h => by
    unfold dm_run at h
    split at h
    · split at h
      · exact dm_exec_px (fun mi as σ r σ' h => dm_run_px d mi as σ r σ' h) _ _ _ _ _ _ _ h
      · cases h
    · cases h
def AF (K : Nat) (g : Nat × Nat) (σ : dm_St) : Prop := AL K g σ ∨ FR K g σ
theorem AF.mk {K : Nat} {g : Nat × Nat} {σ : dm_St} (h : AF K g σ) : ∃ I L R, σ = Mk g I L R := by
  rcases h with ⟨h, mo, nr, n, ne, D, W, I, L, R, e, -⟩ | ⟨br, h, mo, nr, n, ne, D, W, I, L, R, e, -, -⟩
  · exact ⟨I, L, R, e⟩
  · exact ⟨I, L, R, e⟩
/-- a call that both answer alike, in any state between calls; the shapes stay -/
def Pa (S : dm_Sc) (d ci mi : Nat) (as : List Value) : Prop := ∀ K g σ, K ≤ 600 → AF K g σ → ∃ v σ1 σ2, (∀ Q, xc S (d + 60) ci (.ref 0 :: as) σ Q ↔ Q (some (.int v)) σ1) ∧ (∀ Q, xc S (d + 60) mi (.ref 264 :: as) σ1 Q ↔ Q (some (.int v)) σ2) ∧ AF (K + 1) g σ2 ∧ (dm_sh σ1)[264]? = some (.inl 11)
theorem pa_sh {S : dm_Sc} {d ci : Nat} {as : List Value} {K : Nat} {g : Nat × Nat} {σ σ1 : dm_St} {v : Int32} (hA : AF K g σ) (hc : ∀ Q, xc S d ci as σ Q ↔ Q (some (.int v)) σ1) : (dm_sh σ1)[264]? = some (.inl 11) := by
  obtain ⟨N, r, σ', hr, -, e⟩ := (hc (fun r s => r = some (.int v) ∧ s = σ1)).mpr ⟨rfl, rfl⟩
  obtain ⟨x, hx⟩ := dm_run_px _ _ _ _ _ _ hr
  obtain ⟨I, L, R, rfl⟩ := hA.mk
  subst e
  show σ'.1[264]? = _
  rw [hx]
  show (ly_SH ++ x)[264]? = _
  exact (List.getElem?_append_left (List.getElem?_eq_some_iff.mp ms_264).1).trans ms_264
theorem pa_climb {S : dm_Sc} {d : Nat} (t : Int32) : Pa S d 117 218 [.int t] := by
  intro K g σ hK hA
  rcases hA with hA | hA
  · obtain ⟨v, σ1, σ2, a, b, c⟩ := pb_climb (S := S) (d := d) t K g σ hK hA
    exact ⟨v, σ1, σ2, a, b, Or.inl c, pa_sh (Or.inl hA) a⟩
  · obtain ⟨v, σ1, σ2, a, b, c⟩ := fb_climb (S := S) (d := d) t K g σ hK hA
    exact ⟨v, σ1, σ2, a, b, Or.inr c, pa_sh (Or.inr hA) a⟩
theorem pa_fright {S : dm_Sc} {d : Nat} (t v : Int32) : Pa S d 118 219 [.int t, .int v] := by
  intro K g σ hK hA
  rcases hA with hA | hA
  · obtain ⟨v, σ1, σ2, a, b, c⟩ := pb_fright (S := S) (d := d) t v K g σ hK hA
    exact ⟨v, σ1, σ2, a, b, Or.inl c, pa_sh (Or.inl hA) a⟩
  · obtain ⟨v, σ1, σ2, a, b, c⟩ := fb_fright (S := S) (d := d) t v K g σ hK hA
    exact ⟨v, σ1, σ2, a, b, Or.inr c, pa_sh (Or.inr hA) a⟩
theorem pa_drink {S : dm_Sc} {d : Nat} (t : Int32) : Pa S d 119 220 [.int t] := by
  intro K g σ hK hA
  rcases hA with hA | hA
  · obtain ⟨v, σ1, σ2, a, b, c⟩ := pb_drink (S := S) (d := d) t K g σ hK hA
    exact ⟨v, σ1, σ2, a, b, Or.inl c, pa_sh (Or.inl hA) a⟩
  · obtain ⟨v, σ1, σ2, a, b, c⟩ := fb_drink (S := S) (d := d) t K g σ hK hA
    exact ⟨v, σ1, σ2, a, b, Or.inr c, pa_sh (Or.inr hA) a⟩
theorem pa_minutes {S : dm_Sc} {d : Nat} (t : Int32) : Pa S d 120 221 [.int t] := by
  intro K g σ hK hA
  rcases hA with hA | hA
  · obtain ⟨v, σ1, σ2, a, b, c⟩ := pb_minutes (S := S) (d := d) t K g σ hK hA
    exact ⟨v, σ1, σ2, a, b, Or.inl c, pa_sh (Or.inl hA) a⟩
  · obtain ⟨v, σ1, σ2, a, b, c⟩ := fb_minutes (S := S) (d := d) t K g σ hK hA
    exact ⟨v, σ1, σ2, a, b, Or.inr c, pa_sh (Or.inr hA) a⟩
theorem pa_noon {S : dm_Sc} {d : Nat}  : Pa S d 121 222 [] := by
  intro K g σ hK hA
  rcases hA with hA | hA
  · obtain ⟨v, σ1, σ2, a, b, c⟩ := pb_noon (S := S) (d := d)  K g σ hK hA
    exact ⟨v, σ1, σ2, a, b, Or.inl c, pa_sh (Or.inl hA) a⟩
  · obtain ⟨v, σ1, σ2, a, b, c⟩ := fb_noon (S := S) (d := d)  K g σ hK hA
    exact ⟨v, σ1, σ2, a, b, Or.inr c, pa_sh (Or.inr hA) a⟩
theorem pa_move {S : dm_Sc} {d : Nat} (t s : Int32) : Pa S d 122 224 [.int t, .int s] := by
  intro K g σ hK hA
  rcases hA with hA | hA
  · obtain ⟨v, σ1, σ2, a, b, c⟩ := pb_move (S := S) (d := d) t s K g σ hK hA
    exact ⟨v, σ1, σ2, a, b, Or.inl c, pa_sh (Or.inl hA) a⟩
  · obtain ⟨v, σ1, σ2, a, b, c⟩ := fb_move (S := S) (d := d) t s K g σ hK hA
    exact ⟨v, σ1, σ2, a, b, Or.inr c, pa_sh (Or.inr hA) a⟩
theorem pa_undo {S : dm_Sc} {d : Nat}  : Pa S d 123 225 [] := by
  intro K g σ hK hA
  rcases hA with hA | hA
  · obtain ⟨v, σ1, σ2, a, b, c⟩ := pb_undo (S := S) (d := d)  K g σ hK hA
    exact ⟨v, σ1, σ2, a, b, Or.inl c, pa_sh (Or.inl hA) a⟩
  · obtain ⟨v, σ1, σ2, a, b, c⟩ := fb_undo (S := S) (d := d)  K g σ hK hA
    exact ⟨v, σ1, σ2, a, b, Or.inr c, pa_sh (Or.inr hA) a⟩
theorem pa_sample {S : dm_Sc} {d : Nat} (t s : Int32) : Pa S d 134 251 [.int t, .int s] := by
  intro K g σ hK hA
  rcases hA with hA | hA
  · obtain ⟨v, σ1, σ2, a, b, c⟩ := pb_sample (S := S) (d := d) t s K g σ hK hA
    exact ⟨v, σ1, σ2, a, b, Or.inl c, pa_sh (Or.inl hA) a⟩
  · obtain ⟨v, σ1, σ2, a, b, c⟩ := fb_sample (S := S) (d := d) t s K g σ hK hA
    exact ⟨v, σ1, σ2, a, b, Or.inr c, pa_sh (Or.inr hA) a⟩
theorem pa_mark {S : dm_Sc} {d : Nat} (t bk : Int32) (hbk : bk = 0 ∨ bk = 1) : Pa S d 139 261 [.int t, .int bk] := by
  intro K g σ hK hA
  rcases hA with hA | hA
  · obtain ⟨v, σ1, σ2, a, b, c⟩ := pb_mark (S := S) (d := d) t bk hbk K g σ hK hA
    exact ⟨v, σ1, σ2, a, b, Or.inl c, pa_sh (Or.inl hA) a⟩
  · obtain ⟨v, σ1, σ2, a, b, c⟩ := fb_mark (S := S) (d := d) t bk hbk K g σ hK hA
    exact ⟨v, σ1, σ2, a, b, Or.inr c, pa_sh (Or.inr hA) a⟩
theorem pa_pulse {S : dm_Sc} {d : Nat} (t : Int32) : Pa S d 116 217 [.int t] := by
  intro K g σ hK hA
  rcases hA with hA | hA
  · obtain ⟨v, σ1, σ2, a, b, c⟩ := pb_pulse (S := S) (d := d) t K g σ hK hA
    exact ⟨v, σ1, σ2, a, b, Or.inl c, pa_sh (Or.inl hA) a⟩
  · obtain ⟨v, σ1, σ2, a, b, c⟩ := fb_pulse (S := S) (d := d) t K g σ hK hA
    exact ⟨v, σ1, σ2, a, b, Or.inr c, pa_sh (Or.inr hA) a⟩
theorem pa_owed {S : dm_Sc} {d : Nat} (t : Int32) : Pa S d 125 228 [.int t] := by
  intro K g σ hK hA
  rcases hA with hA | hA
  · obtain ⟨v, σ1, σ2, a, b, c⟩ := pb_owed (S := S) (d := d) t K g σ hK hA
    exact ⟨v, σ1, σ2, a, b, Or.inl c, pa_sh (Or.inl hA) a⟩
  · obtain ⟨v, σ1, σ2, a, b, c⟩ := fb_owed (S := S) (d := d) t K g σ hK hA
    exact ⟨v, σ1, σ2, a, b, Or.inr c, pa_sh (Or.inr hA) a⟩
theorem pa_room {S : dm_Sc} {d : Nat} (t w : Int32) : Pa S d 114 215 [.int t, .int w] := by
  intro K g σ hK hA
  rcases hA with hA | hA
  · obtain ⟨v, σ1, σ2, a, b, c⟩ := pb_room (S := S) (d := d) t w K g σ hK hA
    exact ⟨v, σ1, σ2, a, b, Or.inl c, pa_sh (Or.inl hA) a⟩
  · obtain ⟨v, σ1, σ2, a, b, c⟩ := fb_room (S := S) (d := d) t w K g σ hK hA
    exact ⟨v, σ1, σ2, a, b, Or.inr c, pa_sh (Or.inr hA) a⟩
theorem pa_tenant {S : dm_Sc} {d : Nat} (t w : Int32) : Pa S d 115 216 [.int t, .int w] := by
  intro K g σ hK hA
  rcases hA with hA | hA
  · obtain ⟨v, σ1, σ2, a, b, c⟩ := pb_tenant (S := S) (d := d) t w K g σ hK hA
    exact ⟨v, σ1, σ2, a, b, Or.inl c, pa_sh (Or.inl hA) a⟩
  · obtain ⟨v, σ1, σ2, a, b, c⟩ := fb_tenant (S := S) (d := d) t w K g σ hK hA
    exact ⟨v, σ1, σ2, a, b, Or.inr c, pa_sh (Or.inr hA) a⟩
theorem pa_count {S : dm_Sc} {d : Nat} (w : Int32) : Pa S d 140 263 [.int w] := by
  intro K g σ hK hA
  rcases hA with hA | hA
  · obtain ⟨v, σ1, σ2, a, b, c⟩ := pb_count (S := S) (d := d) w K g σ hK hA
    exact ⟨v, σ1, σ2, a, b, Or.inl c, pa_sh (Or.inl hA) a⟩
  · obtain ⟨v, σ1, σ2, a, b, c⟩ := fb_count (S := S) (d := d) w K g σ hK hA
    exact ⟨v, σ1, σ2, a, b, Or.inr c, pa_sh (Or.inr hA) a⟩
theorem pa_will {S : dm_Sc} {d : Nat} (t v : Int32) : Pa S d 126 229 [.int t, .int v] := by
  intro K g σ hK hA
  rcases hA with hA | hA
  · obtain ⟨v, σ1, σ2, a, b, c⟩ := pb_will (S := S) (d := d) t v K g σ hK hA
    exact ⟨v, σ1, σ2, a, b, Or.inl c, pa_sh (Or.inl hA) a⟩
  · obtain ⟨v, σ1, σ2, a, b, c⟩ := fb_will (S := S) (d := d) t v K g σ hK hA
    exact ⟨v, σ1, σ2, a, b, Or.inr c, pa_sh (Or.inr hA) a⟩
theorem pa_last {S : dm_Sc} {d : Nat} (t v : Int32) : Pa S d 127 230 [.int t, .int v] := by
  intro K g σ hK hA
  rcases hA with hA | hA
  · obtain ⟨v, σ1, σ2, a, b, c⟩ := pb_last (S := S) (d := d) t v K g σ hK hA
    exact ⟨v, σ1, σ2, a, b, Or.inl c, pa_sh (Or.inl hA) a⟩
  · obtain ⟨v, σ1, σ2, a, b, c⟩ := fb_last (S := S) (d := d) t v K g σ hK hA
    exact ⟨v, σ1, σ2, a, b, Or.inr c, pa_sh (Or.inr hA) a⟩
theorem pa_law {S : dm_Sc} {d : Nat} (c v : Int32) : Pa S d 133 250 [.int c, .int v] := by
  intro K g σ hK hA
  rcases hA with hA | hA
  · obtain ⟨v, σ1, σ2, a, b, c⟩ := pb_law (S := S) (d := d) c v K g σ hK hA
    exact ⟨v, σ1, σ2, a, b, Or.inl c, pa_sh (Or.inl hA) a⟩
  · obtain ⟨v, σ1, σ2, a, b, c⟩ := fb_law (S := S) (d := d) c v K g σ hK hA
    exact ⟨v, σ1, σ2, a, b, Or.inr c, pa_sh (Or.inr hA) a⟩
theorem pa_years {S : dm_Sc} {d : Nat} (s u w : Int32) : Pa S d 138 260 [.int s, .int u, .int w] := by
  intro K g σ hK hA
  rcases hA with hA | hA
  · obtain ⟨v, σ1, σ2, a, b, c⟩ := pb_years (S := S) (d := d) s u w K g σ hK hA
    exact ⟨v, σ1, σ2, a, b, Or.inl c, pa_sh (Or.inl hA) a⟩
  · obtain ⟨v, σ1, σ2, a, b, c⟩ := fb_years (S := S) (d := d) s u w K g σ hK hA
    exact ⟨v, σ1, σ2, a, b, Or.inr c, pa_sh (Or.inr hA) a⟩
theorem pa_judged {S : dm_Sc} {d : Nat} (w : Int32) : Pa S d 124 227 [.int w] := by
  intro K g σ hK hA
  rcases hA with hA | hA
  · obtain ⟨v, σ1, σ2, a, b, c⟩ := pb_judged (S := S) (d := d) w K g σ hK hA
    exact ⟨v, σ1, σ2, a, b, Or.inl c, pa_sh (Or.inl hA) a⟩
  · obtain ⟨v, σ1, σ2, a, b, c⟩ := fb_judged (S := S) (d := d) w K g σ hK hA
    exact ⟨v, σ1, σ2, a, b, Or.inr c, pa_sh (Or.inr hA) a⟩
theorem pa_haunt {S : dm_Sc} {d : Nat} (t m v w : Int32) : Pa S d 132 245 [.int t, .int m, .int v, .int w] := by
  intro K g σ hK hA
  rcases hA with hA | hA
  · obtain ⟨v, σ1, σ2, a, b, c⟩ := pb_haunt (S := S) (d := d) t m v w K g σ hK hA
    exact ⟨v, σ1, σ2, a, b, Or.inl c, pa_sh (Or.inl hA) a⟩
  · obtain ⟨v, σ1, σ2, a, b, c⟩ := fb_haunt (S := S) (d := d) t m v w K g σ hK hA
    exact ⟨v, σ1, σ2, a, b, Or.inr c, pa_sh (Or.inr hA) a⟩
theorem pa_sampled {S : dm_Sc} {d : Nat} (x y z u : Int32) : Pa S d 131 242 [.int x, .int y, .int z, .int u] := by
  intro K g σ hK hA
  rcases hA with hA | hA
  · obtain ⟨v, σ1, σ2, a, b, c⟩ := pb_sampled (S := S) (d := d) x y z u K g σ hK hA
    exact ⟨v, σ1, σ2, a, b, Or.inl c, pa_sh (Or.inl hA) a⟩
  · obtain ⟨v, σ1, σ2, a, b, c⟩ := fb_sampled (S := S) (d := d) x y z u K g σ hK hA
    exact ⟨v, σ1, σ2, a, b, Or.inr c, pa_sh (Or.inr hA) a⟩
theorem pa_feed {S : dm_Sc} {d : Nat} (a b c : Int64) : Pa S d 111 146 [.long a, .long b, .long c] := by
  intro K g σ hK hA
  rcases hA with hA | hA
  · obtain ⟨v, σ1, σ2, a, b, c⟩ := pb_feed (S := S) (d := d) a b c K g σ hK hA
    exact ⟨v, σ1, σ2, a, b, Or.inl c, pa_sh (Or.inl hA) a⟩
  · obtain ⟨v, σ1, σ2, a, b, c⟩ := fb_feed (S := S) (d := d) a b c K g σ hK hA
    exact ⟨v, σ1, σ2, a, b, Or.inr c, pa_sh (Or.inr hA) a⟩
theorem pa_days {S : dm_Sc} {d : Nat} (t : Int32) : Pa S d 135 254 [.int t] := by
  intro K g σ hK hA
  rcases hA with hA | hA
  · obtain ⟨v, σ1, σ2, a, b, c⟩ := pb_days (S := S) (d := d) t K g σ hK hA
    exact ⟨v, σ1, σ2, a, b, Or.inl c, pa_sh (Or.inl hA) a⟩
  · obtain ⟨v, σ1, σ2, a, b, c⟩ := fb_days (S := S) (d := d) t K g σ hK hA
    exact ⟨v, σ1, σ2, a, b, Or.inr c, pa_sh (Or.inr hA) a⟩
theorem pa_did {S : dm_Sc} {d : Nat} (t u : Int32) : Pa S d 136 255 [.int t, .int u] := by
  intro K g σ hK hA
  rcases hA with hA | hA
  · obtain ⟨v, σ1, σ2, a, b, c⟩ := pb_did (S := S) (d := d) t u K g σ hK hA
    exact ⟨v, σ1, σ2, a, b, Or.inl c, pa_sh (Or.inl hA) a⟩
  · obtain ⟨v, σ1, σ2, a, b, c⟩ := fb_did (S := S) (d := d) t u K g σ hK hA
    exact ⟨v, σ1, σ2, a, b, Or.inr c, pa_sh (Or.inr hA) a⟩
theorem pa_next {S : dm_Sc} {d : Nat} (t : Int32) : Pa S d 137 256 [.int t] := by
  intro K g σ hK hA
  rcases hA with hA | hA
  · obtain ⟨v, σ1, σ2, a, b, c⟩ := pb_next (S := S) (d := d) t K g σ hK hA
    exact ⟨v, σ1, σ2, a, b, Or.inl c, pa_sh (Or.inl hA) a⟩
  · obtain ⟨v, σ1, σ2, a, b, c⟩ := fb_next (S := S) (d := d) t K g σ hK hA
    exact ⟨v, σ1, σ2, a, b, Or.inr c, pa_sh (Or.inr hA) a⟩
theorem pa_errands {S : dm_Sc} {d : Nat} (t w : Int32) : Pa S d 128 233 [.int t, .int w] := by
  intro K g σ hK hA
  rcases hA with hA | hA
  · obtain ⟨v, σ1, σ2, a, b, c⟩ := pb_errands (S := S) (d := d) t w K g σ hK hA
    exact ⟨v, σ1, σ2, a, b, Or.inl c, pa_sh (Or.inl hA) a⟩
  · obtain ⟨v, σ1, σ2, a, b, c⟩ := fb_errands (S := S) (d := d) t w K g σ hK hA
    exact ⟨v, σ1, σ2, a, b, Or.inr c, pa_sh (Or.inr hA) a⟩
theorem pa_match {S : dm_Sc} {d : Nat} (t : Int32) : Pa S d 129 239 [.int t] := by
  intro K g σ hK hA
  rcases hA with hA | hA
  · obtain ⟨v, σ1, σ2, a, b, c⟩ := pb_match (S := S) (d := d) t K g σ hK hA
    exact ⟨v, σ1, σ2, a, b, Or.inl c, pa_sh (Or.inl hA) a⟩
  · obtain ⟨v, σ1, σ2, a, b, c⟩ := fb_match (S := S) (d := d) t K g σ hK hA
    exact ⟨v, σ1, σ2, a, b, Or.inr c, pa_sh (Or.inr hA) a⟩
theorem pa_spare {S : dm_Sc} {d : Nat} (t u : Int32) : Pa S d 130 240 [.int t, .int u] := by
  intro K g σ hK hA
  rcases hA with hA | hA
  · obtain ⟨v, σ1, σ2, a, b, c⟩ := pb_spare (S := S) (d := d) t u K g σ hK hA
    exact ⟨v, σ1, σ2, a, b, Or.inl c, pa_sh (Or.inl hA) a⟩
  · obtain ⟨v, σ1, σ2, a, b, c⟩ := fb_spare (S := S) (d := d) t u K g σ hK hA
    exact ⟨v, σ1, σ2, a, b, Or.inr c, pa_sh (Or.inr hA) a⟩
theorem pa_months {S : dm_Sc} {d : Nat}  : Pa S d 113 179 [] := by
  intro K g σ hK hA
  rcases hA with hA | hA
  · obtain ⟨v, σ1, σ2, a, b, c⟩ := pb_months (S := S) (d := d)  K g σ hK hA
    exact ⟨v, σ1, σ2, a, b, Or.inl c, pa_sh (Or.inl hA) a⟩
  · obtain ⟨v, σ1, σ2, a, b, c⟩ := fb_months (S := S) (d := d)  K g σ hK hA
    exact ⟨v, σ1, σ2, a, b, Or.inr c, pa_sh (Or.inr hA) a⟩
theorem pa_house {S : dm_Sc} {d : Nat}  : Pa S d 112 171 [] := by
  intro K g σ hK hA
  rcases hA with hA | hA
  · obtain ⟨v, σ1, σ2, a, b, c⟩ := pb_house (S := S) (d := d)  K g σ hK hA
    exact ⟨v, σ1, σ2, a, b, Or.inl c, pa_sh (Or.inl hA) a⟩
  · obtain ⟨v, σ1, σ2, a, b, c⟩ := fb_house (S := S) (d := d)  K g σ hK hA
    exact ⟨v, σ1, σ2, a, b, c, pa_sh (Or.inr hA) a⟩
