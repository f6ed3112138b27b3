/-! The mathematics of matching. -/
/-- a room that one would rather have; one whom a room would rather keep -/
def bet (wv : Nat → Nat → Int) (t r r' : Nat) : Prop := wv t r' < wv t r ∨ (wv t r = wv t r' ∧ r < r')
def pri (rst : Nat → Int) (t t' : Nat) : Prop := rst t' < rst t ∨ (rst t = rst t' ∧ t < t')
theorem bet_tot (wv : Nat → Nat → Int) (t : Nat) {r r' : Nat} (h : ¬ r = r') : bet wv t r r' ∨ bet wv t r' r := by unfold bet; omega
theorem bet_asym {wv : Nat → Nat → Int} {t r r' : Nat} (h : bet wv t r r') (h2 : bet wv t r' r) : False := by unfold bet at h h2; omega
theorem pri_asym {rst : Nat → Int} {a b : Nat} (h : pri rst a b) (h2 : pri rst b a) : False := by unfold pri at h h2; omega
theorem pri_trans {rst : Nat → Int} {a b c : Nat} (h : pri rst a b) (h2 : pri rst b c) : pri rst a c := by unfold pri at h h2 ⊢; omega
theorem pri_tot {rst : Nat → Int} {a b : Nat} (h : ¬ a = b) : pri rst a b ∨ pri rst b a := by unfold pri; omega
/-- a matching that nobody would leave -/
def Phi (wv : Nat → Nat → Int) (rst : Nat → Int) (ev : Nat → Bool) (n nr : Nat) (μ : Nat → Option Nat) : Prop :=
  (∀ t r, t < n → μ t = some r → r < nr) ∧ (∀ t e r, t < n → e < n → μ t = some r → μ e = some r → t = e) ∧ (∀ t, t < n → ev t = true → μ t = none) ∧
  (∀ t r r', t < n → ev t = false → μ t = some r → r' < nr → bet wv t r' r → ∃ e, e < n ∧ μ e = some r' ∧ pri rst e t) ∧
  (∀ t r', t < n → ev t = false → μ t = none → r' < nr → ∃ e, e < n ∧ μ e = some r' ∧ pri rst e t)
theorem Phi.un {wv : Nat → Nat → Int} {rst : Nat → Int} {ev : Nat → Bool} {n nr : Nat} {μ ν : Nat → Option Nat} (hn : n ≤ 6) (hall : ∀ e, e < n → 0 ≤ rst e ∧ rst e < 1000) (hm : Phi wv rst ev n nr μ) (hv : Phi wv rst ev n nr ν) : ∀ t, t < n → μ t = ν t := by
  obtain ⟨a1, a2, a3, a4, a5⟩ := hm
  obtain ⟨b1, b2, b3, b4, b5⟩ := hv
  -- by how many come first
  have main : ∀ m t, t < n → ((1000 - rst t) * 10 + t).toNat ≤ m → μ t = ν t := by
    intro m
    induction m using Nat.strongRecOn with
    | _ m ih =>
      intro t ht hmt
      have hr := hall t ht
      have up : ∀ e, e < n → pri rst e t → μ e = ν e := fun e he hp => by
        have hre := hall e he
        refine ih ((1000 - rst e) * 10 + e).toNat ?_ e he (Nat.le_refl _)
        unfold pri at hp
        omega
      by_cases hev : ev t = true
      · rw [a3 t ht hev, b3 t ht hev]
      · have hev : ev t = false := by simpa using hev
        cases hu : μ t with
        | none =>
          cases hw : ν t with
          | none => rfl
          | some r =>
            obtain ⟨e, he, h1, h2⟩ := a5 t r ht hev hu (b1 t r ht hw)
            rw [up e he h2] at h1
            obtain rfl := b2 e t r he ht h1 hw
            exact absurd h2 (fun z => pri_asym z z)
        | some r =>
          cases hw : ν t with
          | none =>
            obtain ⟨e, he, h1, h2⟩ := b5 t r ht hev hw (a1 t r ht hu)
            rw [← up e he h2] at h1
            obtain rfl := a2 e t r he ht h1 hu
            exact absurd h2 (fun z => pri_asym z z)
          | some r' =>
            by_cases e : r = r'
            · rw [e]
            · rcases bet_tot wv t e with h | h
              · obtain ⟨e, he, h1, h2⟩ := b4 t r' r ht hev hw (a1 t r ht hu) h
                rw [← up e he h2] at h1
                obtain rfl := a2 e t r he ht h1 hu
                exact absurd h2 (fun z => pri_asym z z)
              · obtain ⟨e, he, h1, h2⟩ := a4 t r r' ht hev hu (b1 t r' ht hw) h
                rw [up e he h2] at h1
                obtain rfl := b2 e t r' he ht h1 hw
                exact absurd h2 (fun z => pri_asym z z)
  exact fun t ht => main _ t ht (Nat.le_refl _)
/-- the first of the greatest -/
def scI (av : Nat → Bool) (key : Nat → Int) : Nat → Option Nat
  | 0 => none
  | j + 1 => match scI av key j with
    | none => if av j = true then some j else none
    | some b => if av j = true ∧ key b < key j then some j else some b
theorem scI_no (av : Nat → Bool) (key : Nat → Int) : ∀ j, scI av key j = none → ∀ x, x < j → av x = false
  | 0, _, x, hx => absurd hx (Nat.not_lt_zero x)
  | j + 1, h, x, hx => by
    unfold scI at h
    cases hs : scI av key j with
    | none =>
      rw [hs] at h
      dsimp only at h
      by_cases e : x = j
      · subst e
        by_cases z : av x = true
        · rw [if_pos z] at h; cases h
        · simpa using z
      · exact scI_no av key j hs x (by omega)
    | some b =>
      rw [hs] at h
      dsimp only at h
      split at h <;> cases h
theorem scI_some (av : Nat → Bool) (key : Nat → Int) : ∀ j b, scI av key j = some b → b < j ∧ av b = true ∧ ∀ x, x < j → av x = true → ¬ x = b → key x < key b ∨ (key b = key x ∧ b < x)
  | 0, b, h => by cases h
  | j + 1, b, h => by
    unfold scI at h
    cases hs : scI av key j with
    | none =>
      rw [hs] at h
      dsimp only at h
      by_cases z : av j = true
      · rw [if_pos z] at h
        cases h
        refine ⟨by omega, z, fun x hx hav hne => ?_⟩
        have := scI_no av key j hs x (by omega)
        rw [this] at hav; cases hav
      · rw [if_neg z] at h; cases h
    | some c =>
      rw [hs] at h
      dsimp only at h
      obtain ⟨h1, h2, h3⟩ := scI_some av key j c hs
      by_cases z : av j = true ∧ key c < key j
      · rw [if_pos z] at h
        cases h
        refine ⟨by omega, z.1, fun x hx hav hne => ?_⟩
        by_cases e : x = c
        · subst e; exact Or.inl z.2
        · rcases h3 x (by omega) hav e with y | y
          · exact Or.inl (by omega)
          · exact Or.inl (by omega)
      · rw [if_neg z] at h
        cases h
        refine ⟨by omega, h2, fun x hx hav hne => ?_⟩
        by_cases e : x = j
        · subst e
          have : ¬ key b < key x := fun y => z ⟨hav, y⟩
          by_cases y : key x < key b
          · exact Or.inl y
          · exact Or.inr ⟨by omega, by omega⟩
        · exact h3 x (by omega) hav hne
/-! In turn: each the best that is left. -/
def updO (f : Nat → Option Nat) (i : Nat) (v : Option Nat) : Nat → Option Nat := fun j => if j = i then v else f j
theorem updO_e (f : Nat → Option Nat) (i : Nat) (v : Option Nat) : updO f i v i = v := by simp [updO]
theorem updO_n {f : Nat → Option Nat} {i j : Nat} {v : Option Nat} (h : ¬ j = i) : updO f i v j = f j := by simp [updO, h]
theorem updB_e (f : Nat → Bool) (i : Nat) : updB f i i = true := by simp [updB]
theorem updB_n {f : Nat → Bool} {i j : Nat} (h : ¬ j = i) : updB f i j = f j := by simp [updB, h]
abbrev Sd : Type := (Nat → Option Nat) × (Nat → Bool) × (Nat → Bool)
def sdS (wv : Nat → Nat → Int) (rst : Nat → Int) (n nr : Nat) (s : Sd) : Sd := match scI (fun t => !s.2.1 t) rst n with
  | none => s
  | some t => match scI (fun r => !s.2.2 r) (wv t) nr with
    | none => s
    | some r => (updO s.1 t (some r), updB s.2.1 t, updB s.2.2 r)
def sdP (wv : Nat → Nat → Int) (rst : Nat → Int) (ev : Nat → Bool) (n nr j : Nat) : Sd := itB (fun _ s => sdS wv rst n nr s) j (fun _ => none, ev, fun _ => false)
def SDI (wv : Nat → Nat → Int) (rst : Nat → Int) (ev : Nat → Bool) (n nr : Nat) (s : Sd) : Prop :=
  (∀ t r, s.1 t = some r → t < n ∧ r < nr ∧ s.2.1 t = true ∧ ev t = false ∧ s.2.2 r = true) ∧
  (∀ t e r, s.1 t = some r → s.1 e = some r → t = e) ∧ (∀ r, r < nr → s.2.2 r = true → ∃ t, s.1 t = some r) ∧
  (∀ t, s.2.1 t = true → ev t = true ∨ ∃ r, s.1 t = some r) ∧ (∀ t, ev t = true → s.2.1 t = true) ∧
  (∀ t r e, s.1 t = some r → e < n → s.2.1 e = false → pri rst t e) ∧
  (∀ t r r', s.1 t = some r → r' < nr → bet wv t r' r → ∃ e, s.1 e = some r' ∧ pri rst e t)
def b01 (b : Bool) : Nat := match b with
  | true => 0
  | false => 1
def smM (g : Nat → Nat) (n : Nat) : Nat := itB (fun k c => c + g k) n 0
theorem smM_s (g : Nat → Nat) (n : Nat) : smM g (n + 1) = smM g n + g n := rfl
theorem smM_c {g g' : Nat → Nat} : ∀ n, (∀ k, k < n → g' k = g k) → smM g' n = smM g n
  | 0, _ => rfl
  | n + 1, h => by rw [smM_s, smM_s, smM_c n (fun k hk => h k (by omega)), h n (by omega)]
theorem smM_d {g g' : Nat → Nat} {t : Nat} (h2 : g' t + 1 = g t) (h : ∀ k, ¬ k = t → g' k = g k) : ∀ n, t < n → smM g' n + 1 = smM g n
  | 0, ht => absurd ht (Nat.not_lt_zero t)
  | n + 1, ht => by
    rw [smM_s, smM_s]
    by_cases e : t = n
    · subst e
      rw [smM_c t (fun k hk => h k (by omega))]
      omega
    · rw [h n (fun z => e z.symm)]
      have := smM_d h2 h n (by omega)
      omega
theorem smM_0 {g : Nat → Nat} : ∀ n, smM g n = 0 → ∀ k, k < n → g k = 0
  | 0, _, k, hk => absurd hk (Nat.not_lt_zero k)
  | n + 1, h, k, hk => by
    rw [smM_s] at h
    by_cases e : k = n
    · subst e; omega
    · exact smM_0 n (by omega) k (by omega)
theorem smM_le {g : Nat → Nat} (h : ∀ k, g k ≤ 1) : ∀ n, smM g n ≤ n
  | 0 => Nat.le_refl 0
  | n + 1 => by
    rw [smM_s]
    have := h n
    have := smM_le h n
    omega
theorem SDI.go {wv : Nat → Nat → Int} {rst : Nat → Int} {ev : Nat → Bool} {n nr : Nat} {s : Sd} (h : SDI wv rst ev n nr s) : SDI wv rst ev n nr (sdS wv rst n nr s) ∧ ((∀ t, t < n → s.2.1 t = true) ∧ sdS wv rst n nr s = s ∨ (∀ r, r < nr → s.2.2 r = true) ∧ sdS wv rst n nr s = s ∨ smM (fun t => b01 ((sdS wv rst n nr s).2.1 t)) n + 1 = smM (fun t => b01 (s.2.1 t)) n) := by
  obtain ⟨h1, h2, h3, h4, h5, h6, h7⟩ := id h
  cases ht : scI (fun t => !s.2.1 t) rst n with
  | none =>
    have e : sdS wv rst n nr s = s := by unfold sdS; rw [ht]
    rw [e]
    refine ⟨h, Or.inl ⟨fun t htn => ?_, rfl⟩⟩
    have := scI_no _ _ n ht t htn
    simpa using this
  | some t =>
    obtain ⟨t1, t2, t3⟩ := scI_some _ _ n t ht
    have t2 : s.2.1 t = false := by simpa using t2
    cases hr : scI (fun r => !s.2.2 r) (wv t) nr with
    | none =>
      have e : sdS wv rst n nr s = s := by unfold sdS; rw [ht]; dsimp only; rw [hr]
      rw [e]
      refine ⟨h, Or.inr (Or.inl ⟨fun r hrn => ?_, rfl⟩)⟩
      have := scI_no _ _ nr hr r hrn
      simpa using this
    | some r =>
      obtain ⟨r1, r2, r3⟩ := scI_some _ _ nr r hr
      have r2 : s.2.2 r = false := by simpa using r2
      have es : sdS wv rst n nr s = (updO s.1 t (some r), updB s.2.1 t, updB s.2.2 r) := by unfold sdS; rw [ht]; dsimp only; rw [hr]
      rw [es]
      have hev : ev t = false := by
        cases he : ev t with
        | false => rfl
        | true => rw [h5 t he] at t2; cases t2
      have nt : ∀ r', ¬ s.1 t = some r' := fun r' z => by rw [(h1 t r' z).2.2.1] at t2; cases t2
      have nr' : ∀ e, ¬ s.1 e = some r := fun e z => by rw [(h1 e r z).2.2.2.2] at r2; cases r2
      refine ⟨⟨fun e x hx => ?_, fun e e' x hx hx' => ?_, fun x hxn hx => ?_, fun e he => ?_, fun e he => ?_, fun e x e' hx he' hp => ?_, fun e x x' hx hx' hb => ?_⟩, Or.inr (Or.inr ?_)⟩
      · dsimp only at hx ⊢
        by_cases z : e = t
        · subst z
          rw [updO_e] at hx; cases hx
          exact ⟨t1, r1, updB_e _ _, hev, updB_e _ _⟩
        · rw [updO_n z] at hx
          obtain ⟨c1, c2, c3, c4, c5⟩ := h1 e x hx
          have : ¬ x = r := fun y => by subst y; exact nr' e hx
          exact ⟨c1, c2, by rw [updB_n z]; exact c3, c4, by rw [updB_n this]; exact c5⟩
      · dsimp only at hx hx'
        by_cases z : e = t
        · by_cases z' : e' = t
          · rw [z, z']
          · rw [z, updO_e] at hx; cases hx
            rw [updO_n z'] at hx'; exact absurd hx' (nr' e')
        · rw [updO_n z] at hx
          by_cases z' : e' = t
          · rw [z', updO_e] at hx'; cases hx'; exact absurd hx (nr' e)
          · rw [updO_n z'] at hx'; exact h2 e e' x hx hx'
      · dsimp only at hx ⊢
        by_cases z : x = r
        · exact ⟨t, by rw [updO_e, z]⟩
        · rw [updB_n z] at hx
          obtain ⟨e, he⟩ := h3 x hxn hx
          refine ⟨e, ?_⟩
          rw [updO_n (fun y => by subst y; exact nt x he)]; exact he
      · dsimp only at he ⊢
        by_cases z : e = t
        · exact Or.inr ⟨r, by rw [z, updO_e]⟩
        · rw [updB_n z] at he
          rw [updO_n z]; exact h4 e he
      · dsimp only
        by_cases z : e = t
        · rw [z, updB_e]
        · rw [updB_n z]; exact h5 e he
      · dsimp only at hx hp
        by_cases z' : e' = t
        · rw [z', updB_e] at hp; cases hp
        · rw [updB_n z'] at hp
          by_cases z : e = t
          · rcases t3 e' he' (by simp [hp]) z' with y | y
            · rw [z]; exact Or.inl y
            · rw [z]; exact Or.inr ⟨by omega, y.2⟩
          · rw [updO_n z] at hx; exact h6 e x e' hx he' hp
      · dsimp only at hx ⊢
        by_cases z : e = t
        · rw [z, updO_e] at hx; cases hx
          rw [z] at hb ⊢
          have hne : ¬ x' = r := fun y => by subst y; exact bet_asym hb hb
          have htk : s.2.2 x' = true := by
            cases hk : s.2.2 x' with
            | true => rfl
            | false =>
              have := r3 x' hx' (by simp [hk]) hne
              unfold bet at hb
              omega
          obtain ⟨e2, he2⟩ := h3 x' hx' htk
          have ne2 : ¬ e2 = t := fun y => by subst y; exact nt x' he2
          exact ⟨e2, by rw [updO_n ne2]; exact he2, h6 e2 x' t he2 t1 t2⟩
        · rw [updO_n z] at hx
          obtain ⟨e2, he2, hp⟩ := h7 e x x' hx hx' hb
          have ne2 : ¬ e2 = t := fun y => by subst y; exact nt x' he2
          exact ⟨e2, by rw [updO_n ne2]; exact he2, hp⟩
      · refine smM_d (t := t) ?_ (fun k hk => ?_) n t1
        · show b01 (updB s.2.1 t t) + 1 = b01 (s.2.1 t); rw [updB_e, t2]; rfl
        · show b01 (updB s.2.1 t k) = b01 (s.2.1 k); rw [updB_n hk]
theorem sd_Phi {wv : Nat → Nat → Int} {rst : Nat → Int} {ev : Nat → Bool} {n nr : Nat} (hn : n ≤ 6) : Phi wv rst ev n nr (sdP wv rst ev n nr 6).1 := by
  have main : ∀ j, SDI wv rst ev n nr (sdP wv rst ev n nr j) ∧ ((∀ t, t < n → (sdP wv rst ev n nr j).2.1 t = true) ∨ (∀ r, r < nr → (sdP wv rst ev n nr j).2.2 r = true) ∨ smM (fun t => b01 ((sdP wv rst ev n nr j).2.1 t)) n + j ≤ 6) := by
    intro j
    induction j with
    | zero =>
      have h0 : SDI wv rst ev n nr (fun _ => none, ev, fun _ => false) := by
        unfold SDI
        dsimp only
        refine ⟨fun t r h => ?_, fun t e r h => ?_, fun r _ h => ?_, fun t h => Or.inl h, fun t h => h, fun t r e h => ?_, fun t r r' h => ?_⟩ <;> cases h
      refine ⟨h0, Or.inr (Or.inr ?_)⟩
      have := smM_le (g := fun t => b01 (ev t)) (fun k => by cases ev k <;> decide) n
      exact Nat.le_trans this hn
    | succ j ih =>
      obtain ⟨hi, hc⟩ := ih
      obtain ⟨g1, g2⟩ := hi.go
      have es : sdP wv rst ev n nr (j + 1) = sdS wv rst n nr (sdP wv rst ev n nr j) := rfl
      rw [es]
      refine ⟨g1, ?_⟩
      rcases g2 with ⟨a, b⟩ | ⟨a, b⟩ | a
      · rw [b]; exact Or.inl a
      · rw [b]; exact Or.inr (Or.inl a)
      · rcases hc with c | c | c
        · have e0 : smM (fun t => b01 ((sdP wv rst ev n nr j).2.1 t)) n = 0 := by
            rw [smM_c (g := fun _ => 0) n (fun k hk => by rw [c k hk]; rfl)]
            clear a hi g1 es c hn
            induction n with
            | zero => rfl
            | succ n ih => rw [smM_s, ih]
          omega
        · have := g1
          refine Or.inr (Or.inl fun r hr => ?_)
          unfold sdS
          split
          · exact c r hr
          · split
            · exact c r hr
            · rename_i x _
              dsimp only
              by_cases z : r = x
              · rw [z, updB_e]
              · rw [updB_n z]; exact c r hr
        · exact Or.inr (Or.inr (by omega))
  obtain ⟨⟨h1, h2, h3, h4, h5, h6, h7⟩, hc⟩ := main 6
  refine ⟨fun t r _ h => (h1 t r h).2.1, fun t e r _ _ a b => h2 t e r a b, fun t _ he => ?_, fun t r r' _ _ hm hr hb => ?_, fun t r' ht he hm hr => ?_⟩
  · cases hm : (sdP wv rst ev n nr 6).1 t with
    | none => rfl
    | some r => rw [(h1 t r hm).2.2.2.1] at he; cases he
  · obtain ⟨e, e1, e2⟩ := h7 t r r' hm hr hb
    exact ⟨e, (h1 e r' e1).1, e1, e2⟩
  · have hp : (sdP wv rst ev n nr 6).2.1 t = false := by
      cases hk : (sdP wv rst ev n nr 6).2.1 t with
      | false => rfl
      | true =>
        rcases h4 t hk with z | ⟨r, z⟩
        · rw [he] at z; cases z
        · rw [hm] at z; cases z
    have hall : ∀ r, r < nr → (sdP wv rst ev n nr 6).2.2 r = true := by
      rcases hc with c | c | c
      · rw [c t ht] at hp; cases hp
      · exact c
      · have h00 : smM (fun t => b01 ((sdP wv rst ev n nr 6).2.1 t)) n = 0 := by omega
        have := smM_0 n h00 t ht
        rw [hp] at this; cases this
    obtain ⟨e, he2⟩ := h3 r' hr (hall r' hr)
    exact ⟨e, (h1 e r' he2).1, he2, h6 e r' t he2 ht hp⟩
