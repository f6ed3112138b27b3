/-! The mathematics of matching: asking. -/
def kpF (ma : Nat → Option Nat) (r : Nat) : Nat → Option Nat
  | 0 => none
  | k + 1 => if ma k = some r then some k else kpF ma r k
theorem kpF_some {ma : Nat → Option Nat} {r : Nat} : ∀ n k, kpF ma r n = some k → k < n ∧ ma k = some r
  | 0, k, h => by cases h
  | n + 1, k, h => by
    unfold kpF at h
    by_cases z : ma n = some r
    · rw [if_pos z] at h; cases h; exact ⟨by omega, z⟩
    · rw [if_neg z] at h
      obtain ⟨a, b⟩ := kpF_some n k h
      exact ⟨by omega, b⟩
theorem kpF_none {ma : Nat → Option Nat} {r : Nat} : ∀ n, kpF ma r n = none → ∀ k, k < n → ¬ ma k = some r
  | 0, _, k, hk => absurd hk (Nat.not_lt_zero k)
  | n + 1, h, k, hk => by
    unfold kpF at h
    by_cases z : ma n = some r
    · rw [if_pos z] at h; cases h
    · rw [if_neg z] at h
      by_cases e : k = n
      · subst e; exact z
      · exact kpF_none n h k (by omega)
def upd2 (f : Nat → Nat → Bool) (t r : Nat) : Nat → Nat → Bool := fun a b => if a = t then (if b = r then true else f a b) else f a b
theorem upd2_e (f : Nat → Nat → Bool) (t r : Nat) : upd2 f t r t r = true := by simp [upd2]
theorem upd2_t {f : Nat → Nat → Bool} {t r a b : Nat} (h : ¬ a = t) : upd2 f t r a b = f a b := by simp [upd2, h]
theorem upd2_r {f : Nat → Nat → Bool} {t r b : Nat} (h : ¬ b = r) : upd2 f t r t b = f t b := by simp [upd2, h]
abbrev Da : Type := (Nat → Option Nat) × (Nat → Nat → Bool)
/-- one asks -/
def daN (rst : Nat → Int) (n t r : Nat) (ma : Nat → Option Nat) : Nat → Option Nat := match kpF ma r n with
  | none => updO ma t (some r)
  | some k => if rst k < rst t ∨ (rst t = rst k ∧ t < k) then updO (updO ma t (some r)) k none else ma
def daR (wv : Nat → Nat → Int) (ev : Nat → Bool) (nr t : Nat) (s : Da) : Option Nat := match s.1 t with
  | some _ => none
  | none => if ev t = true then none else scI (fun r => !s.2 t r) (wv t) nr
def daS (wv : Nat → Nat → Int) (rst : Nat → Int) (ev : Nat → Bool) (n nr t : Nat) (s : Da) : Da := match daR wv ev nr t s with
  | none => s
  | some r => (daN rst n t r s.1, upd2 s.2 t r)
def DAI (wv : Nat → Nat → Int) (rst : Nat → Int) (ev : Nat → Bool) (n nr : Nat) (s : Da) : Prop :=
  (∀ t r, t < n → s.1 t = some r → r < nr ∧ s.2 t r = true ∧ ev t = false) ∧
  (∀ t r r', t < n → r' < nr → s.2 t r = true → s.2 t r' = false → bet wv t r r') ∧
  (∀ t r, t < n → s.2 t r = true → ¬ s.1 t = some r → ∃ e, e < n ∧ s.1 e = some r ∧ pri rst e t) ∧
  (∀ t e r, t < n → e < n → s.1 t = some r → s.1 e = some r → t = e) ∧
  (∀ t r, t < n → s.2 t r = true → r < nr)
def msr (n nr : Nat) (f : Nat → Nat → Bool) : Nat := smM (fun t => smM (fun r => b01 (f t r)) nr) n
theorem DAI.go {wv : Nat → Nat → Int} {rst : Nat → Int} {ev : Nat → Bool} {n nr t : Nat} {s : Da} (h : DAI wv rst ev n nr s) (ht : t < n) {r : Nat} (hd : daR wv ev nr t s = some r) : DAI wv rst ev n nr (daS wv rst ev n nr t s) ∧ msr n nr (daS wv rst ev n nr t s).2 + 1 = msr n nr s.2 := by
  obtain ⟨h1, h2, h3, h4, h5⟩ := h
  have es : daS wv rst ev n nr t s = (daN rst n t r s.1, upd2 s.2 t r) := by unfold daS; rw [hd]
  rw [es]
  unfold daR at hd
  cases hm : s.1 t with
  | some x => rw [hm] at hd; cases hd
  | none =>
    rw [hm] at hd
    dsimp only at hd
    by_cases hev : ev t = true
    · rw [if_pos hev] at hd; cases hd
    · rw [if_neg hev] at hd
      have hev : ev t = false := by simpa using hev
      obtain ⟨r1, r2, r3⟩ := scI_some _ _ nr r hd
      have r2 : s.2 t r = false := by simpa using r2
      have nt : ∀ x, ¬ s.1 t = some x := fun x z => by rw [hm] at z; cases z
      have hms : msr n nr (upd2 s.2 t r) + 1 = msr n nr s.2 := by
        refine smM_d (t := t) ?_ (fun k hk => ?_) n ht
        · refine smM_d (t := r) ?_ (fun k hk => ?_) nr r1
          · show b01 (upd2 s.2 t r t r) + 1 = b01 (s.2 t r); rw [upd2_e, r2]; rfl
          · show b01 (upd2 s.2 t r t k) = b01 (s.2 t k); rw [upd2_r hk]
        · exact smM_c nr (fun x _ => by show b01 (upd2 s.2 t r k x) = b01 (s.2 k x); rw [upd2_t hk])
      refine ⟨?_, hms⟩
      -- what all have asked, in their order
      have g2 : ∀ e x x', e < n → x' < nr → upd2 s.2 t r e x = true → upd2 s.2 t r e x' = false → bet wv e x x' := fun e x x' he hx' a b => by
        by_cases z : e = t
        · subst z
          by_cases zx : x = r
          · subst zx
            by_cases zx' : x' = x
            · subst zx'; rw [upd2_e] at b; cases b
            · rw [upd2_r zx'] at b
              have := r3 x' hx' (by simp [b]) zx'
              unfold bet; omega
          · rw [upd2_r zx] at a
            by_cases zx' : x' = r
            · subst zx'; rw [upd2_e] at b; cases b
            · rw [upd2_r zx'] at b; exact h2 e x x' he hx' a b
        · rw [upd2_t z] at a b; exact h2 e x x' he hx' a b
      have g5 : ∀ e x, e < n → upd2 s.2 t r e x = true → x < nr := fun e x he a => by
        by_cases z : e = t
        · subst z
          by_cases zx : x = r
          · rw [zx]; exact r1
          · rw [upd2_r zx] at a; exact h5 e x he a
        · rw [upd2_t z] at a; exact h5 e x he a
      have gm : ∀ e x, e < n → s.1 e = some x → upd2 s.2 t r e x = true := fun e x he a => by
        have := (h1 e x he a).2.1
        by_cases z : e = t
        · rw [z] at a; exact absurd a (nt x)
        · rw [upd2_t z]; exact this
      unfold daN
      cases hk : kpF s.1 r n with
      | none =>
        have nk := kpF_none n hk
        dsimp only
        refine ⟨fun e x he a => ?_, g2, fun e x he a b => ?_, fun e e' x he he' a b => ?_, g5⟩
        · dsimp only at a ⊢
          by_cases z : e = t
          · rw [z, updO_e] at a; cases a; rw [z]; exact ⟨r1, upd2_e _ _ _, hev⟩
          · rw [updO_n z] at a; exact ⟨(h1 e x he a).1, gm e x he a, (h1 e x he a).2.2⟩
        · dsimp only at a b ⊢
          by_cases z : e = t
          · subst z
            by_cases zx : x = r
            · rw [zx, updO_e] at b; exact absurd rfl b
            · rw [upd2_r zx] at a
              obtain ⟨e2, e3, e4, e5⟩ := h3 e x he a (nt x)
              exact ⟨e2, e3, by rw [updO_n (fun y => by rw [y] at e4; exact nt x e4)]; exact e4, e5⟩
          · rw [upd2_t z] at a
            rw [updO_n z] at b
            obtain ⟨e2, e3, e4, e5⟩ := h3 e x he a b
            exact ⟨e2, e3, by rw [updO_n (fun y => by rw [y] at e4; exact nt x e4)]; exact e4, e5⟩
        · dsimp only at a b
          by_cases z : e = t
          · by_cases z' : e' = t
            · rw [z, z']
            · rw [z, updO_e] at a; cases a
              rw [updO_n z'] at b; exact absurd b (nk e' he')
          · rw [updO_n z] at a
            by_cases z' : e' = t
            · rw [z', updO_e] at b; cases b; exact absurd a (nk e he)
            · rw [updO_n z'] at b; exact h4 e e' x he he' a b
      | some k =>
        obtain ⟨k1, k2⟩ := kpF_some n k hk
        have hkt : ¬ k = t := fun y => by rw [y] at k2; exact nt r k2
        dsimp only
        by_cases hw : rst k < rst t ∨ (rst t = rst k ∧ t < k)
        · rw [if_pos hw]
          have htk : ¬ t = k := fun y => hkt y.symm
          have hold : ∀ e x, e < n → s.1 e = some x → ¬ x = r → updO (updO s.1 t (some r)) k none e = some x := fun e x he a b => by
            have n1 : ¬ e = t := fun y => by rw [y] at a; exact nt x a
            have n2 : ¬ e = k := fun y => by rw [y, k2] at a; cases a; exact b rfl
            rw [updO_n n2, updO_n n1]; exact a
          refine ⟨fun e x he a => ?_, g2, fun e x he a b => ?_, fun e e' x he he' a b => ?_, g5⟩
          · dsimp only at a ⊢
            by_cases zk : e = k
            · rw [zk, updO_e] at a; cases a
            · rw [updO_n zk] at a
              by_cases z : e = t
              · rw [z, updO_e] at a; cases a; rw [z]; exact ⟨r1, upd2_e _ _ _, hev⟩
              · rw [updO_n z] at a; exact ⟨(h1 e x he a).1, gm e x he a, (h1 e x he a).2.2⟩
          · dsimp only at a b ⊢
            by_cases zx : x = r
            · subst zx
              refine ⟨t, ht, by rw [updO_n htk, updO_e], ?_⟩
              by_cases z : e = t
              · rw [z, updO_n htk, updO_e] at b; exact absurd rfl b
              · by_cases zk : e = k
                · rw [zk]; exact hw
                · rw [upd2_t z] at a
                  have b' : ¬ s.1 e = some x := fun y => zk (h4 e k x he k1 y k2)
                  obtain ⟨e2, e3, e4, e5⟩ := h3 e x he a b'
                  have : e2 = k := h4 e2 k x e3 k1 e4 k2
                  rw [this] at e5
                  exact pri_trans hw e5
            · have a' : s.2 e x = true := by
                by_cases z : e = t
                · subst z; rw [upd2_r zx] at a; exact a
                · rw [upd2_t z] at a; exact a
              have b' : ¬ s.1 e = some x := fun y => b (hold e x he y zx)
              obtain ⟨e2, e3, e4, e5⟩ := h3 e x he a' b'
              exact ⟨e2, e3, hold e2 x e3 e4 zx, e5⟩
          · dsimp only at a b
            have back : ∀ e, e < n → updO (updO s.1 t (some r)) k none e = some x → (e = t ∧ x = r) ∨ (¬ e = k ∧ s.1 e = some x) := fun e he y => by
              by_cases zk : e = k
              · rw [zk, updO_e] at y; cases y
              · rw [updO_n zk] at y
                by_cases z : e = t
                · rw [z, updO_e] at y; cases y; exact Or.inl ⟨z, rfl⟩
                · rw [updO_n z] at y; exact Or.inr ⟨zk, y⟩
            rcases back e he a with ⟨y1, y2⟩ | ⟨y1, y2⟩
            · rcases back e' he' b with ⟨w1, w2⟩ | ⟨w1, w2⟩
              · rw [y1, w1]
              · rw [y2] at w2; exact absurd (h4 e' k r he' k1 w2 k2) w1
            · rcases back e' he' b with ⟨w1, w2⟩ | ⟨w1, w2⟩
              · rw [w2] at y2; exact absurd (h4 e k r he k1 y2 k2) y1
              · exact h4 e e' x he he' y2 w2
        · rw [if_neg hw]
          refine ⟨fun e x he a => ?_, g2, fun e x he a b => ?_, h4, g5⟩
          · exact ⟨(h1 e x he a).1, gm e x he a, (h1 e x he a).2.2⟩
          · dsimp only at a b ⊢
            by_cases z : e = t
            · subst z
              by_cases zx : x = r
              · subst zx
                exact ⟨k, k1, k2, by unfold pri; omega⟩
              · rw [upd2_r zx] at a; exact h3 e x he a b
            · rw [upd2_t z] at a; exact h3 e x he a b
/-- nobody asks anew -/
theorem DAI.Phi {wv : Nat → Nat → Int} {rst : Nat → Int} {ev : Nat → Bool} {n nr : Nat} {s : Da} (h : DAI wv rst ev n nr s) (he : ∀ t, t < n → daR wv ev nr t s = none) : Phi wv rst ev n nr s.1 := by
  obtain ⟨h1, h2, h3, h4, h5⟩ := h
  refine ⟨fun t r ht a => (h1 t r ht a).1, fun t e r ht he a b => h4 t e r ht he a b, fun t ht hev => ?_, fun t r r' ht hev hm hr hb => ?_, fun t r' ht hev hm hr => ?_⟩
  · cases hm : s.1 t with
    | none => rfl
    | some r => rw [(h1 t r ht hm).2.2] at hev; cases hev
  · have ha : s.2 t r' = true := by
      cases z : s.2 t r' with
      | true => rfl
      | false => exact absurd (h2 t r r' ht hr (h1 t r ht hm).2.1 z) (fun y => bet_asym hb y)
    refine h3 t r' ht ha (fun z => ?_)
    rw [hm] at z; cases z; exact bet_asym hb hb
  · have hn := he t ht
    unfold daR at hn
    rw [hm] at hn
    dsimp only at hn
    rw [if_neg (by rw [hev]; decide)] at hn
    have ha : s.2 t r' = true := by
      have := scI_no _ _ nr hn r' hr
      simpa using this
    exact h3 t r' ht ha (by rw [hm]; intro z; cases z)
