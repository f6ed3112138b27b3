/-! Houses: a line more. -/
def flg (b : Bool) : Int32 := if b = true then 1 else 0
def rmH (H : Nat → Int32) (nr : Nat) (v1 v2 v3 : Int32) : Nat → Int32 := upd (upd (upd (upd H (8 + 3 * nr) v1) (8 + 3 * nr + 1) v2) (8 + 3 * nr + 2) v3) 0 (nI (nr + 1))
def eaH (H : Nat → Int32) (ne : Nat) (v1 v2 v3 : Int32) : Nat → Int32 := upd (upd (upd (upd H (92 + 3 * ne) v1) (92 + 3 * ne + 1) v2) (92 + 3 * ne + 2) v3) 2 (nI (ne + 1))
def tnH (H : Nat → Int32) (n : Nat) (v0 v1 v2 v3 v4 : Int32) : Nat → Int32 := upd (upd (upd (upd (upd (upd H (26 + 5 * n) v0) (26 + 5 * n + 1) v1) (26 + 5 * n + 2) v2) (26 + 5 * n + 3) v3) (26 + 5 * n + 4) v4) 1 (nI (n + 1))
def lvH (H : Nat → Int32) (a b : Nat) : Nat → Int32 := upd H (56 + 6 * a + b) 1
theorem loB_c {H H' : Nat → Int32} {t : Nat} (h : ∀ e, e < 6 → H' (56 + 6 * t + e) = H (56 + 6 * t + e)) : bB (loB H' t) = bB (loB H t) := by
  simp only [bB, loB]
  rw [h 0 (by omega), h 1 (by omega), h 2 (by omega), h 3 (by omega), h 4 (by omega), h 5 (by omega)]
theorem rsV_c {H H' : Nat → Int32} {t : Nat} (h0 : H' (26 + 5 * t) = H (26 + 5 * t)) (h1 : H' (26 + 5 * t + 1) = H (26 + 5 * t + 1)) : rsV H' t = rsV H t := by
  unfold rsV; rw [h0, h1]
section ROWS
variable {I : Nat → Nat → Int32} {h nr n ne : Nat} {H : Nat → Int32} {v0 v1 v2 v3 v4 v5 : Int32}
/-- a house's rows, of which those that are told are as they were -/
theorem HP.cg {I' : Nat → Nat → Int32} {H' : Nat → Int32} (hp : HP I h H nr n ne) (a : I' (h + 1) 2 = I (h + 1) 2 ∧ I' (h + 7) 2 = I (h + 7) 2 ∧ I' (h + 17) 2 = I (h + 17) 2 ∧ I' h 5 = H' 3 ∧ I' h 6 = H' 4 ∧ I' h 7 = H' 5)
    (b : ∀ r, r < nr → I' (h + 1 + 3) r = I (h + 1 + 3) r ∧ I' (h + 1 + 4) r = I (h + 1 + 4) r ∧ I' (h + 1 + 5) r = I (h + 1 + 5) r ∧ ∀ k, k < 3 → H' (8 + 3 * r + k) = H (8 + 3 * r + k))
    (c : ∀ t, t < n → I' (h + 7 + 3) t = I (h + 7 + 3) t ∧ I' (h + 7 + 4) t = I (h + 7 + 4) t ∧ I' (h + 7 + 5) t = I (h + 7 + 5) t ∧ I' (h + 7 + 6) t = I (h + 7 + 6) t ∧ I' (h + 7 + 7) t = I (h + 7 + 7) t ∧ I' (h + 7 + 9) t = I (h + 7 + 9) t ∧ ∀ k, k < 5 → H' (26 + 5 * t + k) = H (26 + 5 * t + k))
    (l : ∀ t, t < n → I' (h + 7 + 8) t = bB (loB H' t))
    (e : ∀ j, j < ne → I' (h + 17 + 3) j = I (h + 17 + 3) j ∧ I' (h + 17 + 4) j = I (h + 17 + 4) j ∧ I' (h + 17 + 5) j = I (h + 17 + 5) j ∧ ∀ k, k < 3 → H' (92 + 3 * j + k) = H (92 + 3 * j + k)) : HP I' h H' nr n ne := by
  obtain ⟨⟨p1, p2, p3, -⟩, p5, p6, p7⟩ := hp
  obtain ⟨a1, a2, a3, a4⟩ := a
  refine ⟨⟨a1.trans p1, a2.trans p2, a3.trans p3, a4⟩, fun r hr => ?_, fun t ht => ?_, fun j hj => ?_⟩
  · obtain ⟨b1, b2, b3, b4⟩ := b r hr
    rw [b1, b2, b3, show H' (8 + 3 * r) = H (8 + 3 * r) from b4 0 (by omega), b4 1 (by omega), b4 2 (by omega)]
    exact p5 r hr
  · obtain ⟨c1, c2, c3, c4, c5, c6, c7⟩ := c t ht
    obtain ⟨q1, q2, q3, q4, q5, -, q7⟩ := p6 t ht
    have e0 : H' (26 + 5 * t) = H (26 + 5 * t) := c7 0 (by omega)
    rw [c1, c2, c3, c4, c5, c6, rsV_c e0 (c7 1 (by omega)), e0, c7 1 (by omega), c7 2 (by omega), c7 3 (by omega), c7 4 (by omega)]
    exact ⟨q1, q2, q3, q4, q5, l t ht, q7⟩
  · obtain ⟨e1, e2, e3, e4⟩ := e j hj
    rw [e1, e2, e3, show H' (92 + 3 * j) = H (92 + 3 * j) from e4 0 (by omega), e4 1 (by omega), e4 2 (by omega)]
    exact p7 j hj
theorem HP.room (hp : HP I h H nr n ne) (h6 : nr < 6) (hn : n ≤ 6) (he : ne ≤ 6) : HP (dm_up (dm_up (dm_up (dm_up I (h + 1) 2 (nI (nr + 1))) (h + 1 + 3) nr v1) (h + 1 + 4) nr v2) (h + 1 + 5) nr v3) h (rmH H nr v1 v2 v3) (nr + 1) n ne := by
  obtain ⟨⟨p1, p2, p3, p4, p5, p6⟩, q1, q2, q3⟩ := id hp
  unfold rmH
  have hl : ∀ t, t < n → bB (loB (upd (upd (upd (upd H (8 + 3 * nr) v1) (8 + 3 * nr + 1) v2) (8 + 3 * nr + 2) v3) 0 (nI (nr + 1))) t) = bB (loB H t) := fun t ht => loB_c (fun e he => by simp (disch := omega) only [dm_upe, dm_upi, dm_upp, upd_eq, upd_ne])
  refine ⟨⟨?_, ?_, ?_, ?_, ?_, ?_⟩, fun r hr => ?_, fun t ht => ?_, fun e he => ?_⟩
  · simp (disch := omega) only [dm_upe, dm_upi, dm_upp, upd_eq, upd_ne]
  · simp (disch := omega) only [dm_upe, dm_upi, dm_upp, upd_eq, upd_ne]; exact p2
  · simp (disch := omega) only [dm_upe, dm_upi, dm_upp, upd_eq, upd_ne]; exact p3
  · simp (disch := omega) only [dm_upe, dm_upi, dm_upp, upd_eq, upd_ne]; exact p4
  · simp (disch := omega) only [dm_upe, dm_upi, dm_upp, upd_eq, upd_ne]; exact p5
  · simp (disch := omega) only [dm_upe, dm_upi, dm_upp, upd_eq, upd_ne]; exact p6
  · by_cases z : r = nr
    · subst z
      simp (disch := omega) only [dm_upe, dm_upi, dm_upp, upd_eq, upd_ne]
      exact ⟨trivial, trivial, trivial⟩
    · simp (disch := omega) only [dm_upe, dm_upi, dm_upp, upd_eq, upd_ne]
      exact q1 r (by omega)
  · rw [hl t ht, rsV_c (H := H) (by simp (disch := omega) only [dm_upe, dm_upi, dm_upp, upd_eq, upd_ne]) (by simp (disch := omega) only [dm_upe, dm_upi, dm_upp, upd_eq, upd_ne])]
    simp (disch := omega) only [dm_upe, dm_upi, dm_upp, upd_eq, upd_ne]
    exact q2 t ht
  · simp (disch := omega) only [dm_upe, dm_upi, dm_upp, upd_eq, upd_ne]
    exact q3 e he
theorem HP.errand (hp : HP I h H nr n ne) (h6 : ne < 6) (hn : n ≤ 6) (he : nr ≤ 6) : HP (dm_up (dm_up (dm_up (dm_up I (h + 17) 2 (nI (ne + 1))) (h + 17 + 3) ne v1) (h + 17 + 4) ne v2) (h + 17 + 5) ne v3) h (eaH H ne v1 v2 v3) nr n (ne + 1) := by
  obtain ⟨⟨p1, p2, p3, p4, p5, p6⟩, q1, q2, q3⟩ := id hp
  unfold eaH
  have hl : ∀ t, t < n → bB (loB (upd (upd (upd (upd H (92 + 3 * ne) v1) (92 + 3 * ne + 1) v2) (92 + 3 * ne + 2) v3) 2 (nI (ne + 1))) t) = bB (loB H t) := fun t ht => loB_c (fun e he => by simp (disch := omega) only [dm_upe, dm_upi, dm_upp, upd_eq, upd_ne])
  refine ⟨⟨?_, ?_, ?_, ?_, ?_, ?_⟩, fun r hr => ?_, fun t ht => ?_, fun e he => ?_⟩
  · simp (disch := omega) only [dm_upe, dm_upi, dm_upp, upd_eq, upd_ne]; exact p1
  · simp (disch := omega) only [dm_upe, dm_upi, dm_upp, upd_eq, upd_ne]; exact p2
  · simp (disch := omega) only [dm_upe, dm_upi, dm_upp, upd_eq, upd_ne]
  · simp (disch := omega) only [dm_upe, dm_upi, dm_upp, upd_eq, upd_ne]; exact p4
  · simp (disch := omega) only [dm_upe, dm_upi, dm_upp, upd_eq, upd_ne]; exact p5
  · simp (disch := omega) only [dm_upe, dm_upi, dm_upp, upd_eq, upd_ne]; exact p6
  · simp (disch := omega) only [dm_upe, dm_upi, dm_upp, upd_eq, upd_ne]
    exact q1 r hr
  · rw [hl t ht, rsV_c (H := H) (by simp (disch := omega) only [dm_upe, dm_upi, dm_upp, upd_eq, upd_ne]) (by simp (disch := omega) only [dm_upe, dm_upi, dm_upp, upd_eq, upd_ne])]
    simp (disch := omega) only [dm_upe, dm_upi, dm_upp, upd_eq, upd_ne]
    exact q2 t ht
  · by_cases z : e = ne
    · subst z
      simp (disch := omega) only [dm_upe, dm_upi, dm_upp, upd_eq, upd_ne]
      exact ⟨trivial, trivial, trivial⟩
    · simp (disch := omega) only [dm_upe, dm_upi, dm_upp, upd_eq, upd_ne]
      exact q3 e (by omega)
/-- none loves or is loved who is not told -/
def LVo (H : Nat → Int32) (n : Nat) : Prop := ∀ a b, a < 6 → b < 6 → (n ≤ a ∨ n ≤ b) → ¬ H (56 + 6 * a + b) = 1
theorem HP.tenant (hp : HP I h H nr n ne) (h6 : n < 6) (hr6 : nr ≤ 6) (he : ne ≤ 6) (lv : LVo H n) (hv : v5 = v1 + if v0 = 3 then 20 else 0) : HP (dm_up (dm_up (dm_up (dm_up (dm_up (dm_up (dm_up (dm_up I (h + 7) 2 (nI (n + 1))) (h + 7 + 3) n v0) (h + 7 + 4) n v1) (h + 7 + 5) n v2) (h + 7 + 6) n v3) (h + 7 + 7) n v4) (h + 7 + 8) n 0) (h + 7 + 9) n v5) h (tnH H n v0 v1 v2 v3 v4) nr (n + 1) ne := by
  obtain ⟨⟨p1, p2, p3, p4, p5, p6⟩, q1, q2, q3⟩ := id hp
  unfold tnH
  have hl : ∀ t, t < 6 → bB (loB (upd (upd (upd (upd (upd (upd H (26 + 5 * n) v0) (26 + 5 * n + 1) v1) (26 + 5 * n + 2) v2) (26 + 5 * n + 3) v3) (26 + 5 * n + 4) v4) 1 (nI (n + 1))) t) = bB (loB H t) := fun t ht => loB_c (fun e he => by simp (disch := omega) only [dm_upe, dm_upi, dm_upp, upd_eq, upd_ne])
  refine ⟨⟨?_, ?_, ?_, ?_, ?_, ?_⟩, fun r hr => ?_, fun t ht => ?_, fun e he => ?_⟩
  · simp (disch := omega) only [dm_upe, dm_upi, dm_upp, upd_eq, upd_ne]; exact p1
  · simp (disch := omega) only [dm_upe, dm_upi, dm_upp, upd_eq, upd_ne]
  · simp (disch := omega) only [dm_upe, dm_upi, dm_upp, upd_eq, upd_ne]; exact p3
  · simp (disch := omega) only [dm_upe, dm_upi, dm_upp, upd_eq, upd_ne]; exact p4
  · simp (disch := omega) only [dm_upe, dm_upi, dm_upp, upd_eq, upd_ne]; exact p5
  · simp (disch := omega) only [dm_upe, dm_upi, dm_upp, upd_eq, upd_ne]; exact p6
  · simp (disch := omega) only [dm_upe, dm_upi, dm_upp, upd_eq, upd_ne]
    exact q1 r hr
  · rw [hl t (by omega)]
    by_cases z : t = n
    · subst z
      have e0 : bB (loB H t) = 0 := by
        have lf : ∀ e, e < 6 → loB H t e = false := fun e he => decide_eq_false (lv t e h6 he (Or.inl (Nat.le_refl _)))
        unfold bB
        rw [lf 0 (by omega), lf 1 (by omega), lf 2 (by omega), lf 3 (by omega), lf 4 (by omega), lf 5 (by omega)]
        decide
      rw [e0]
      unfold rsV
      simp (disch := omega) only [dm_upe, dm_upi, dm_upp, upd_eq, upd_ne]
      exact ⟨trivial, trivial, trivial, trivial, trivial, trivial, hv⟩
    · rw [rsV_c (H := H) (by simp (disch := omega) only [dm_upe, dm_upi, dm_upp, upd_eq, upd_ne]) (by simp (disch := omega) only [dm_upe, dm_upi, dm_upp, upd_eq, upd_ne])]
      simp (disch := omega) only [dm_upe, dm_upi, dm_upp, upd_eq, upd_ne]
      exact q2 t (by omega)
  · simp (disch := omega) only [dm_upe, dm_upi, dm_upp, upd_eq, upd_ne]
    exact q3 e he
theorem HP.love {a b : Nat} (hp : HP I h H nr n ne) (ha : a < n) (hb : b < n) (hn : n ≤ 6) (hr6 : nr ≤ 6) : HP (dm_up I (h + 7 + 8) a (bB (loB H a) ||| 1 <<< (nI b &&& 31))) h (lvH H a b) nr n ne := by
  obtain ⟨⟨p1, p2, p3, p4, p5, p6⟩, q1, q2, q3⟩ := id hp
  unfold lvH
  refine ⟨⟨?_, ?_, ?_, ?_, ?_, ?_⟩, fun r hr => ?_, fun t ht => ?_, fun e he => ?_⟩
  · simp (disch := omega) only [dm_upe, dm_upi, dm_upp, upd_eq, upd_ne]; exact p1
  · simp (disch := omega) only [dm_upe, dm_upi, dm_upp, upd_eq, upd_ne]; exact p2
  · simp (disch := omega) only [dm_upe, dm_upi, dm_upp, upd_eq, upd_ne]; exact p3
  · simp (disch := omega) only [dm_upe, dm_upi, dm_upp, upd_eq, upd_ne]; exact p4
  · simp (disch := omega) only [dm_upe, dm_upi, dm_upp, upd_eq, upd_ne]; exact p5
  · simp (disch := omega) only [dm_upe, dm_upi, dm_upp, upd_eq, upd_ne]; exact p6
  · simp (disch := omega) only [dm_upe, dm_upi, dm_upp, upd_eq, upd_ne]
    exact q1 r hr
  · rw [rsV_c (H := H) (H' := upd H (56 + 6 * a + b) 1) (by simp (disch := omega) only [dm_upe, dm_upi, dm_upp, upd_eq, upd_ne]) (by simp (disch := omega) only [dm_upe, dm_upi, dm_upp, upd_eq, upd_ne])]
    by_cases z : t = a
    · subst z
      have e0 : bB (loB (upd H (56 + 6 * t + b) 1) t) = bB (updB (loB H t) b) := by
        congr 1
        funext e
        unfold loB updB
        by_cases y : e = b
        · subst y; rw [upd_eq, if_pos rfl]; rfl
        · rw [upd_ne (by omega), if_neg y]
      rw [bB_or _ (by omega), e0]
      simp (disch := omega) only [dm_upe, dm_upi, dm_upp, upd_eq, upd_ne]
      obtain ⟨r1, r2, r3, r4, r5, -, r7⟩ := q2 t ht
      exact ⟨r1, r2, r3, r4, r5, trivial, r7⟩
    · rw [loB_c (H := H) (H' := upd H (56 + 6 * a + b) 1) (t := t) (fun e he => by simp (disch := omega) only [dm_upe, dm_upi, dm_upp, upd_eq, upd_ne])]
      simp (disch := omega) only [dm_upe, dm_upi, dm_upp, upd_eq, upd_ne]
      exact q2 t ht
  · simp (disch := omega) only [dm_upe, dm_upi, dm_upp, upd_eq, upd_ne]
    exact q3 e he
theorem HP.coffee (hp : HP I h H nr n ne) (h1 : nr ≤ 6) (hn : n ≤ 6) (he : ne ≤ 6) {w : Int32} : HP (dm_up (dm_up (dm_up I h 8 w) h 5 v1) h 6 v2) h (upd (upd H 3 v1) 4 v2) nr n ne := by
  obtain ⟨⟨p1, p2, p3, p4, p5, p6⟩, q1, q2, q3⟩ := id hp
  refine ⟨⟨?_, ?_, ?_, ?_, ?_, ?_⟩, fun r hr => ?_, fun t ht => ?_, fun e he => ?_⟩
  · simp (disch := omega) only [dm_upe, dm_upi, dm_upp, upd_eq, upd_ne]; exact p1
  · simp (disch := omega) only [dm_upe, dm_upi, dm_upp, upd_eq, upd_ne]; exact p2
  · simp (disch := omega) only [dm_upe, dm_upi, dm_upp, upd_eq, upd_ne]; exact p3
  · simp (disch := omega) only [dm_upe, dm_upi, dm_upp, upd_eq, upd_ne]
  · simp (disch := omega) only [dm_upe, dm_upi, dm_upp, upd_eq, upd_ne]
  · simp (disch := omega) only [dm_upe, dm_upi, dm_upp, upd_eq, upd_ne]; exact p6
  · simp (disch := omega) only [dm_upe, dm_upi, dm_upp, upd_eq, upd_ne]
    exact q1 r hr
  · rw [rsV_c (H := H) (by simp (disch := omega) only [dm_upe, dm_upi, dm_upp, upd_eq, upd_ne]) (by simp (disch := omega) only [dm_upe, dm_upi, dm_upp, upd_eq, upd_ne]), loB_c (H := H) (fun e he => by simp (disch := omega) only [dm_upe, dm_upi, dm_upp, upd_eq, upd_ne])]
    simp (disch := omega) only [dm_upe, dm_upi, dm_upp, upd_eq, upd_ne]
    exact q2 t ht
  · simp (disch := omega) only [dm_upe, dm_upi, dm_upp, upd_eq, upd_ne]
    exact q3 e he
theorem HP.every (hp : HP I h H nr n ne) (h1 : nr ≤ 6) (hn : n ≤ 6) (he : ne ≤ 6) {w : Int32} : HP (dm_up (dm_up I h 9 w) h 7 v1) h (upd H 5 v1) nr n ne := by
  obtain ⟨⟨p1, p2, p3, p4, p5, p6⟩, q1, q2, q3⟩ := id hp
  refine ⟨⟨?_, ?_, ?_, ?_, ?_, ?_⟩, fun r hr => ?_, fun t ht => ?_, fun e he => ?_⟩
  · simp (disch := omega) only [dm_upe, dm_upi, dm_upp, upd_eq, upd_ne]; exact p1
  · simp (disch := omega) only [dm_upe, dm_upi, dm_upp, upd_eq, upd_ne]; exact p2
  · simp (disch := omega) only [dm_upe, dm_upi, dm_upp, upd_eq, upd_ne]; exact p3
  · simp (disch := omega) only [dm_upe, dm_upi, dm_upp, upd_eq, upd_ne]; exact p4
  · simp (disch := omega) only [dm_upe, dm_upi, dm_upp, upd_eq, upd_ne]; exact p5
  · simp (disch := omega) only [dm_upe, dm_upi, dm_upp, upd_eq, upd_ne]
  · simp (disch := omega) only [dm_upe, dm_upi, dm_upp, upd_eq, upd_ne]
    exact q1 r hr
  · rw [rsV_c (H := H) (by simp (disch := omega) only [dm_upe, dm_upi, dm_upp, upd_eq, upd_ne]) (by simp (disch := omega) only [dm_upe, dm_upi, dm_upp, upd_eq, upd_ne]), loB_c (H := H) (fun e he => by simp (disch := omega) only [dm_upe, dm_upi, dm_upp, upd_eq, upd_ne])]
    simp (disch := omega) only [dm_upe, dm_upi, dm_upp, upd_eq, upd_ne]
    exact q2 t ht
  · simp (disch := omega) only [dm_upe, dm_upi, dm_upp, upd_eq, upd_ne]
    exact q3 e he
theorem HP.law {k : Nat} (hk : k = 6 ∨ k = 7) (hp : HP I h H nr n ne) (h1 : nr ≤ 6) (hn : n ≤ 6) (he : ne ≤ 6) : HP I h (upd H k v1) nr n ne := by
  obtain ⟨⟨p1, p2, p3, p4, p5, p6⟩, q1, q2, q3⟩ := id hp
  refine ⟨⟨p1, p2, p3, ?_, ?_, ?_⟩, fun r hr => ?_, fun t ht => ?_, fun e he => ?_⟩
  · simp (disch := omega) only [dm_upe, dm_upi, dm_upp, upd_eq, upd_ne]; exact p4
  · simp (disch := omega) only [dm_upe, dm_upi, dm_upp, upd_eq, upd_ne]; exact p5
  · simp (disch := omega) only [dm_upe, dm_upi, dm_upp, upd_eq, upd_ne]; exact p6
  · simp (disch := omega) only [dm_upe, dm_upi, dm_upp, upd_eq, upd_ne]
    exact q1 r hr
  · rw [rsV_c (H := H) (by simp (disch := omega) only [dm_upe, dm_upi, dm_upp, upd_eq, upd_ne]) (by simp (disch := omega) only [dm_upe, dm_upi, dm_upp, upd_eq, upd_ne]), loB_c (H := H) (fun e he => by simp (disch := omega) only [dm_upe, dm_upi, dm_upp, upd_eq, upd_ne])]
    simp (disch := omega) only [dm_upe, dm_upi, dm_upp, upd_eq, upd_ne]
    exact q2 t ht
  · simp (disch := omega) only [dm_upe, dm_upi, dm_upp, upd_eq, upd_ne]
    exact q3 e he
end ROWS
/-! The rows themselves. -/
section WROWS
variable {nr n ne : Nat} {H : Nat → Int32}
theorem WFH.room (w : WFH H nr n ne) (h6 : nr < 6) {a b c : Nat} (ha : a ≤ 60) (hb : b ≤ 20) (hc : c ≤ 999) : WFH (rmH H nr (nI a) (nI b) (nI c)) (nr + 1) n ne := by
  obtain ⟨⟨p1, p2, p3, p4, p5, p6⟩, ⟨c1, c2, c3⟩, q1, q2, q3, q4⟩ := id w
  unfold rmH
  refine ⟨⟨?_, ?_, ?_, by omega, p5, p6⟩, ⟨?_, ?_, ?_⟩, fun r hr => ?_, fun t ht => ?_, fun t e ht he => ?_, fun e he => ?_⟩
  · simp (disch := omega) only [dm_upe, dm_upi, dm_upp, upd_eq, upd_ne]
  · simp (disch := omega) only [dm_upe, dm_upi, dm_upp, upd_eq, upd_ne]; exact p2
  · simp (disch := omega) only [dm_upe, dm_upi, dm_upp, upd_eq, upd_ne]; exact p3
  · simp (disch := omega) only [dm_upe, dm_upi, dm_upp, upd_eq, upd_ne]; exact c1
  · simp (disch := omega) only [dm_upe, dm_upi, dm_upp, upd_eq, upd_ne]; exact c2
  · simp (disch := omega) only [dm_upe, dm_upi, dm_upp, upd_eq, upd_ne]; exact c3
  · by_cases z : r = nr
    · subst z
      simp (disch := omega) only [dm_upe, dm_upi, dm_upp, upd_eq, upd_ne]
      exact ⟨⟨a, ha, rfl⟩, ⟨b, hb, rfl⟩, c, hc, rfl⟩
    · simp (disch := omega) only [dm_upe, dm_upi, dm_upp, upd_eq, upd_ne]
      exact q1 r (by omega)
  · simp (disch := omega) only [dm_upe, dm_upi, dm_upp, upd_eq, upd_ne]
    obtain ⟨r1, r2, r3, r4, r5⟩ := q2 t ht
    refine ⟨r1, r2, r3, r4, r5.elim Or.inl (fun x => Or.inr ?_)⟩
    obtain ⟨r, y1, y2⟩ := x
    exact ⟨r, by omega, y2⟩
  · simp (disch := omega) only [dm_upe, dm_upi, dm_upp, upd_eq, upd_ne]
    exact q3 t e ht he
  · simp (disch := omega) only [dm_upe, dm_upi, dm_upp, upd_eq, upd_ne]
    exact q4 e he
theorem WFH.errand (w : WFH H nr n ne) (h6 : ne < 6) {a b c : Nat} (ha : a ≤ 99) (hb1 : 1 ≤ b) (hb : b ≤ 20) (hc : c ≤ 60) : WFH (eaH H ne (nI a) (nI b) (nI c)) nr n (ne + 1) := by
  obtain ⟨⟨p1, p2, p3, p4, p5, p6⟩, ⟨c1, c2, c3⟩, q1, q2, q3, q4⟩ := id w
  unfold eaH
  refine ⟨⟨?_, ?_, ?_, p4, p5, by omega⟩, ⟨?_, ?_, ?_⟩, fun r hr => ?_, fun t ht => ?_, fun t e ht he => ?_, fun e he => ?_⟩
  · simp (disch := omega) only [dm_upe, dm_upi, dm_upp, upd_eq, upd_ne]; exact p1
  · simp (disch := omega) only [dm_upe, dm_upi, dm_upp, upd_eq, upd_ne]; exact p2
  · simp (disch := omega) only [dm_upe, dm_upi, dm_upp, upd_eq, upd_ne]
  · simp (disch := omega) only [dm_upe, dm_upi, dm_upp, upd_eq, upd_ne]; exact c1
  · simp (disch := omega) only [dm_upe, dm_upi, dm_upp, upd_eq, upd_ne]; exact c2
  · simp (disch := omega) only [dm_upe, dm_upi, dm_upp, upd_eq, upd_ne]; exact c3
  · simp (disch := omega) only [dm_upe, dm_upi, dm_upp, upd_eq, upd_ne]
    exact q1 r hr
  · simp (disch := omega) only [dm_upe, dm_upi, dm_upp, upd_eq, upd_ne]
    exact q2 t ht
  · simp (disch := omega) only [dm_upe, dm_upi, dm_upp, upd_eq, upd_ne]
    exact q3 t e ht he
  · by_cases z : e = ne
    · subst z
      simp (disch := omega) only [dm_upe, dm_upi, dm_upp, upd_eq, upd_ne]
      exact ⟨⟨a, ha, rfl⟩, ⟨b, hb1, hb, rfl⟩, c, hc, rfl⟩
    · simp (disch := omega) only [dm_upe, dm_upi, dm_upp, upd_eq, upd_ne]
      exact q4 e (by omega)
theorem occ_no {v : Int32} : ∀ n, occ H v n = false → ∀ t, t < n → ¬ H (26 + 5 * t + 4) = v
  | 0, _, t, ht => absurd ht (Nat.not_lt_zero t)
  | n + 1, h, t, ht => by
    have h : (occ H v n || decide (H (26 + 5 * n + 4) = v)) = false := h
    rw [Bool.or_eq_false_iff] at h
    by_cases z : t = n
    · subst z; exact of_decide_eq_false h.2
    · exact occ_no n h.1 t (by omega)
theorem WFH.tenant (w : WFH H nr n ne) (h6 : n < 6) {a b c e : Nat} {v : Int32} (ha : a ≤ 3) (hb1 : 40 ≤ b) (hb : b ≤ 99) (hc : c ≤ 40) (he : e ≤ 9999) (hv : v = -1 ∨ ∃ r, r < nr ∧ v = nI r ∧ occ H v n = false) : WFH (tnH H n (nI a) (nI b) (nI c) (nI e) v) nr (n + 1) ne := by
  obtain ⟨⟨p1, p2, p3, p4, p5, p6⟩, ⟨c1, c2, c3⟩, q1, q2, q3, q4⟩ := id w
  unfold tnH
  refine ⟨⟨?_, ?_, ?_, p4, by omega, p6⟩, ⟨?_, ?_, ?_⟩, fun r hr => ?_, fun t ht => ?_, fun t e ht he => ?_, fun e he => ?_⟩
  · simp (disch := omega) only [dm_upe, dm_upi, dm_upp, upd_eq, upd_ne]; exact p1
  · simp (disch := omega) only [dm_upe, dm_upi, dm_upp, upd_eq, upd_ne]
  · simp (disch := omega) only [dm_upe, dm_upi, dm_upp, upd_eq, upd_ne]; exact p3
  · simp (disch := omega) only [dm_upe, dm_upi, dm_upp, upd_eq, upd_ne]; exact c1
  · simp (disch := omega) only [dm_upe, dm_upi, dm_upp, upd_eq, upd_ne]; exact c2
  · simp (disch := omega) only [dm_upe, dm_upi, dm_upp, upd_eq, upd_ne]; exact c3
  · simp (disch := omega) only [dm_upe, dm_upi, dm_upp, upd_eq, upd_ne]
    exact q1 r hr
  · by_cases z : t = n
    · subst z
      simp (disch := omega) only [dm_upe, dm_upi, dm_upp, upd_eq, upd_ne]
      refine ⟨⟨a, ha, rfl⟩, ⟨b, hb1, hb, rfl⟩, ⟨c, hc, rfl⟩, ⟨e, he, rfl⟩, hv.elim Or.inl (fun x => Or.inr ?_)⟩
      obtain ⟨r, y1, y2, -⟩ := x
      exact ⟨r, y1, y2⟩
    · simp (disch := omega) only [dm_upe, dm_upi, dm_upp, upd_eq, upd_ne]
      exact q2 t (by omega)
  · by_cases z : t = n
    · by_cases y : e = n
      · intro x; omega
      · subst z
        simp (disch := omega) only [dm_upe, dm_upi, dm_upp, upd_eq, upd_ne]
        intro _ x
        rcases hv with hv | ⟨r, y1, y2, y3⟩
        · exact hv
        · exact absurd x.symm (occ_no t y3 e (by omega))
    · by_cases y : e = n
      · subst y
        simp (disch := omega) only [dm_upe, dm_upi, dm_upp, upd_eq, upd_ne]
        intro _ x
        rcases hv with hv | ⟨r, y1, y2, y3⟩
        · rw [x]; exact hv
        · exact absurd x (occ_no e y3 t (by omega))
      · simp (disch := omega) only [dm_upe, dm_upi, dm_upp, upd_eq, upd_ne]
        exact q3 t e (by omega) (by omega)
  · simp (disch := omega) only [dm_upe, dm_upi, dm_upp, upd_eq, upd_ne]
    exact q4 e he
theorem WFH.cg {H' : Nat → Int32} (w : WFH H nr n ne) (h0 : ∀ i, i < 3 → H' i = H i) (h1 : (∃ c, c ≤ 60 ∧ H' 3 = nI c) ∧ (∃ c, 1 ≤ c ∧ c ≤ 120 ∧ H' 4 = nI c) ∧ (∃ c, 1 ≤ c ∧ c ≤ 30 ∧ H' 5 = nI c)) (h2 : ∀ i, 8 ≤ i → i < 56 → H' i = H i) (h3 : ∀ i, 92 ≤ i → i < 110 → H' i = H i) : WFH H' nr n ne := by
  obtain ⟨⟨p1, p2, p3, p4, p5, p6⟩, -, q1, q2, q3, q4⟩ := id w
  refine ⟨⟨by rw [h0 0 (by omega)]; exact p1, by rw [h0 1 (by omega)]; exact p2, by rw [h0 2 (by omega)]; exact p3, p4, p5, p6⟩, h1, fun r hr => ?_, fun t ht => ?_, fun t e ht he => ?_, fun e he => ?_⟩
  · rw [h2 _ (by omega) (by omega), h2 _ (by omega) (by omega), h2 _ (by omega) (by omega)]; exact q1 r hr
  · rw [h2 _ (by omega) (by omega), h2 _ (by omega) (by omega), h2 _ (by omega) (by omega), h2 _ (by omega) (by omega), h2 _ (by omega) (by omega)]; exact q2 t ht
  · rw [h2 (26 + 5 * t + 4) (by omega) (by omega), h2 (26 + 5 * e + 4) (by omega) (by omega)]; exact q3 t e ht he
  · rw [h3 _ (by omega) (by omega), h3 _ (by omega) (by omega), h3 _ (by omega) (by omega)]; exact q4 e he
theorem LVo.cg {H' : Nat → Int32} {m : Nat} (l : LVo H n) (hm : n ≤ m) (h : ∀ i, 56 ≤ i → i < 92 → H' i = H i) : LVo H' m := fun a b ha hb hx => by rw [h _ (by omega) (by omega)]; exact l a b ha hb (by omega)
theorem LVo.love {a b : Nat} (l : LVo H n) (ha : a < n) (hb : b < n) (hn : n ≤ 6) : LVo (lvH H a b) n := fun x y hx hy hz => by
  unfold lvH
  rw [upd_ne (by omega)]
  exact l x y hx hy hz
end WROWS
