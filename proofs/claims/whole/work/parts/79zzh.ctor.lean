/-! The constructors. -/
def ct_I : List (Nat × Nat × Int32) := [(4, 2, 0), (10, 2, 0), (20, 2, 0), (3, 5, 20), (3, 6, 30), (3, 7, 1), (26, 5, 0), (30, 5, 0), (270, 0, 0), (270, 1, 0), (270, 2, 0), (270, 3, 20), (270, 4, 30), (270, 5, 1), (270, 6, -1), (270, 7, -1), (264, 28, 20), (264, 18, 0), (264, 26, 0), (264, 2, 0), (65, 3, 0), (277, 0, 0), (280, 0, 0), (280, 43, 0), (280, 1, -1), (280, 2, -1), (280, 3, -1), (280, 4, -1), (280, 5, -1), (280, 6, -1), (280, 7, 0), (280, 8, 0), (280, 9, 0), (280, 10, 0), (280, 11, 0), (280, 12, 0), (280, 13, 0), (280, 14, 0), (280, 15, 0), (280, 16, 0), (280, 17, 0), (280, 18, 0), (280, 19, 0), (280, 20, 0), (280, 21, 0), (280, 22, 0), (280, 23, 0), (280, 24, 0), (280, 25, 0), (280, 26, 0), (280, 27, 0), (280, 28, 0), (280, 29, 0), (280, 30, 0), (280, 31, 0), (280, 32, 0), (280, 33, 0), (280, 34, 0), (280, 35, 0), (280, 36, 0), (280, 37, 0), (280, 38, 0), (280, 39, 0), (280, 40, 0), (280, 41, 0), (280, 42, 0), (73, 0, 0), (73, 1, 0), (73, 2, 0), (74, 0, -1), (74, 1, -1), (74, 2, -1), (74, 3, -1), (74, 4, -1), (74, 5, -1), (75, 0, 0), (75, 1, 0), (75, 2, 0), (75, 3, 0), (75, 4, 0), (75, 5, 0), (76, 0, 0), (76, 1, 0), (76, 2, 0), (76, 3, 0), (76, 4, 0), (76, 5, 0), (77, 0, 0), (77, 1, 0), (77, 2, 0), (77, 3, 0), (77, 4, 0), (77, 5, 0), (78, 0, 0), (78, 1, 0), (78, 2, 0), (78, 3, 0), (78, 4, 0), (78, 5, 0), (79, 0, 0), (79, 1, 0), (79, 2, 0), (79, 3, 0), (79, 4, 0), (79, 5, 0), (90, 2, 0), (0, 8, 0), (0, 9, 0), (0, 12, 0), (1, 1, 0), (96, 0, 0), (97, 0, 0), (98, 0, 0), (26, 0, 1), (30, 0, 0), (57, 0, 1), (61, 0, 0), (281, 0, 0), (281, 1, 0), (281, 2, 0), (281, 3, 0)]
def ct_isR (v : Value) (k : Nat) : Bool := match v with
  | .ref j => decide (j = k)
  | _ => false
theorem ct_isR_e {v : Value} {k : Nat} (h : ct_isR v k = true) : v = .ref k := by
  cases v <;> first | (simp [ct_isR] at h; done) | (simp only [ct_isR, decide_eq_true_eq] at h; rw [h])
def ct_ck (σ : dm_St) : Bool := decide (σ.1 = ly_SH) && decide (σ.2.1 = (0, 0)) && ct_I.all (fun e => decide (σ.2.2.1 e.1 e.2.1 = e.2.2)) && (List.range 37).all (fun j => decide (σ.2.2.2.1 269 j = wrd37.getD j 0)) && (ly_R ++ [(0, 1, 3), (0, 2, 34), (0, 3, 65), (0, 4, 69)]).all (fun e => ct_isR (σ.2.2.2.2 e.1 e.2.1) e.2.2)
def ct_2 (σ : dm_St) : Option dm_St := match dm_run dm_S0 dm_tab 8 4000 148 [.ref 286] (dm_push σ (.inl 11)) with
  | some (none, σ2) => some (dm_push σ2 (.inr (1, 1)))
  | _ => none
def ct_1 : Option dm_St := match dm_run dm_S0 dm_tab 8 4000 110 [.ref 0] dm_0 with
  | some (none, σ1) => some σ1
  | _ => none
theorem ct_FR {σ : dm_St} (h : ct_ck σ = true) : FR 0 (0, 0) σ := by
  obtain ⟨sh, g, I, L, R⟩ := σ
  simp only [ct_ck, Bool.and_eq_true, decide_eq_true_eq] at h
  obtain ⟨⟨⟨⟨h1, h2⟩, h3⟩, h4⟩, h5⟩ := h
  subst h1 h2
  have i_ : ∀ (p i : Nat) (v : Int32), ct_I.contains (p, i, v) = true → I p i = v := fun p i v h => of_decide_eq_true (List.all_eq_true.mp h3 (p, i, v) (List.contains_iff_mem.mp h))
  have l_ : ∀ j, j < 37 → L 269 j = wrd37.getD j 0 := fun j hj => of_decide_eq_true (List.all_eq_true.mp h4 j (List.mem_range.mpr hj))
  have r_ : ∀ e ∈ ly_R ++ [(0, 1, 3), (0, 2, 34), (0, 3, 65), (0, 4, 69)], R e.1 e.2.1 = .ref e.2.2 := fun e he => ct_isR_e (List.all_eq_true.mp h5 e he)
  have z : ∀ k, ¬ k < 0 := Nat.not_lt_zero
  have six : ∀ (P : Nat → Prop), P 0 → P 1 → P 2 → P 3 → P 4 → P 5 → ∀ t, t < 6 → P t := fun P a b c e f g t ht => by
    rcases (show t = 0 ∨ t = 1 ∨ t = 2 ∨ t = 3 ∨ t = 4 ∨ t = 5 by omega) with rfl | rfl | rfl | rfl | rfl | rfl <;> assumption
  have hB0 : ∀ t, t < 6 → I 280 (1 + t) = -1 := six _ (i_ 280 1 (-1) (by decide)) (i_ 280 2 (-1) (by decide)) (i_ 280 3 (-1) (by decide)) (i_ 280 4 (-1) (by decide)) (i_ 280 5 (-1) (by decide)) (i_ 280 6 (-1) (by decide))
  have hB7 : ∀ t, t < 6 → I 280 (7 + t) = 0 := six _ (i_ 280 7 0 (by decide)) (i_ 280 8 0 (by decide)) (i_ 280 9 0 (by decide)) (i_ 280 10 0 (by decide)) (i_ 280 11 0 (by decide)) (i_ 280 12 0 (by decide))
  have hB13 : ∀ t, t < 6 → I 280 (13 + t) = 0 := six _ (i_ 280 13 0 (by decide)) (i_ 280 14 0 (by decide)) (i_ 280 15 0 (by decide)) (i_ 280 16 0 (by decide)) (i_ 280 17 0 (by decide)) (i_ 280 18 0 (by decide))
  have hB19 : ∀ t, t < 6 → I 280 (19 + t) = 0 := six _ (i_ 280 19 0 (by decide)) (i_ 280 20 0 (by decide)) (i_ 280 21 0 (by decide)) (i_ 280 22 0 (by decide)) (i_ 280 23 0 (by decide)) (i_ 280 24 0 (by decide))
  have hB25 : ∀ t, t < 6 → I 280 (25 + t) = 0 := six _ (i_ 280 25 0 (by decide)) (i_ 280 26 0 (by decide)) (i_ 280 27 0 (by decide)) (i_ 280 28 0 (by decide)) (i_ 280 29 0 (by decide)) (i_ 280 30 0 (by decide))
  have hB31 : ∀ t, t < 6 → I 280 (31 + t) = 0 := six _ (i_ 280 31 0 (by decide)) (i_ 280 32 0 (by decide)) (i_ 280 33 0 (by decide)) (i_ 280 34 0 (by decide)) (i_ 280 35 0 (by decide)) (i_ 280 36 0 (by decide))
  have hB37 : ∀ t, t < 6 → I 280 (37 + t) = 0 := six _ (i_ 280 37 0 (by decide)) (i_ 280 38 0 (by decide)) (i_ 280 39 0 (by decide)) (i_ 280 40 0 (by decide)) (i_ 280 41 0 (by decide)) (i_ 280 42 0 (by decide))
  have hC74 : ∀ t, t < 6 → I 74 t = -1 := six _ (i_ 74 0 (-1) (by decide)) (i_ 74 1 (-1) (by decide)) (i_ 74 2 (-1) (by decide)) (i_ 74 3 (-1) (by decide)) (i_ 74 4 (-1) (by decide)) (i_ 74 5 (-1) (by decide))
  have hC75 : ∀ t, t < 6 → I 75 t = 0 := six _ (i_ 75 0 (0) (by decide)) (i_ 75 1 (0) (by decide)) (i_ 75 2 (0) (by decide)) (i_ 75 3 (0) (by decide)) (i_ 75 4 (0) (by decide)) (i_ 75 5 (0) (by decide))
  have hC76 : ∀ t, t < 6 → I 76 t = 0 := six _ (i_ 76 0 (0) (by decide)) (i_ 76 1 (0) (by decide)) (i_ 76 2 (0) (by decide)) (i_ 76 3 (0) (by decide)) (i_ 76 4 (0) (by decide)) (i_ 76 5 (0) (by decide))
  have hC77 : ∀ t, t < 6 → I 77 t = 0 := six _ (i_ 77 0 (0) (by decide)) (i_ 77 1 (0) (by decide)) (i_ 77 2 (0) (by decide)) (i_ 77 3 (0) (by decide)) (i_ 77 4 (0) (by decide)) (i_ 77 5 (0) (by decide))
  have hC78 : ∀ t, t < 6 → I 78 t = 0 := six _ (i_ 78 0 (0) (by decide)) (i_ 78 1 (0) (by decide)) (i_ 78 2 (0) (by decide)) (i_ 78 3 (0) (by decide)) (i_ 78 4 (0) (by decide)) (i_ 78 5 (0) (by decide))
  have hC79 : ∀ t, t < 6 → I 79 t = 0 := six _ (i_ 79 0 (0) (by decide)) (i_ 79 1 (0) (by decide)) (i_ 79 2 (0) (by decide)) (i_ 79 3 (0) (by decide)) (i_ 79 4 (0) (by decide)) (i_ 79 5 (0) (by decide))
  have e3 : I 270 3 = 20 := i_ 270 3 20 (by decide)
  refine ⟨0, 3, 65, 0, 0, 0, none, none, I, L, R, rfl, rfl, fun e he => r_ e (List.mem_append_left _ he), ⟨⟨by decide, r_ (0, 1, 3) (List.mem_append_right _ (by decide)), r_ (0, 2, 34) (List.mem_append_right _ (by decide))⟩, ⟨⟨i_ 270 0 0 (by decide), i_ 270 1 0 (by decide), i_ 270 2 0 (by decide), by decide, by decide, by decide⟩, ⟨⟨20, by decide, e3⟩, ⟨30, by decide, by decide, i_ 270 4 30 (by decide)⟩, ⟨1, by decide, by decide, i_ 270 5 1 (by decide)⟩⟩, fun k hk => absurd hk (z k), fun k hk => absurd hk (z k), fun k j hk => absurd hk (z k), fun k hk => absurd hk (z k)⟩, ⟨⟨⟨i_ 4 2 0 (by decide), i_ 10 2 0 (by decide), i_ 20 2 0 (by decide), ?_, ?_, ?_⟩, fun k hk => absurd hk (z k), fun k hk => absurd hk (z k), fun k hk => absurd hk (z k)⟩, i_ 26 5 0 (by decide), i_ 30 5 0 (by decide)⟩, i_ 270 6 (-1) (by decide), i_ 270 7 (-1) (by decide), (fun c b hc => (by cases hc)), (fun c b hc => (by cases hc)), ?_, 0, by decide, i_ 264 18 0 (by decide), fun _ => [], fun _ => 0, fun k hk => absurd hk (z k), fun k hk => absurd hk (z k), fun k hk => absurd hk (z k), fun k hk => absurd hk (z k), fun k hk => absurd hk (z k), fun k j hk => absurd hk (z k)⟩, ⟨⟨by decide, r_ (0, 3, 65) (List.mem_append_right _ (by decide)), r_ (0, 4, 69) (List.mem_append_right _ (by decide))⟩, 0, by decide, i_ 65 3 0 (by decide), i_ 277 0 0 (by decide), fun k hk => absurd hk (z k)⟩, ⟨⟨fun t ht => Or.inl (hB0 t ht), fun t e ht _ _ _ => hB0 t ht, fun t ht _ => ⟨hB7 t ht, hB13 t ht, hB19 t ht, hB25 t ht, hB31 t ht, hB37 t ht⟩, fun t ht => ⟨⟨0, by decide, hB19 t ht⟩, ⟨0, by decide, hB25 t ht⟩, ⟨0, by decide, hB31 t ht⟩, Or.inl (hB37 t ht), fun _ => hB0 t ht, fun _ => ⟨0, by omega, hB13 t ht⟩⟩⟩, ⟨?_, ?_, ?_⟩, fun t ht => ?_, fun t ht => ?_, fun t ht => ?_, fun t ht => ?_, fun t ht => ?_, fun t ht => ?_⟩, ⟨0, by decide, i_ 90 2 0 (by decide), i_ 280 43 0 (by decide), fun k hk => absurd hk (z k)⟩, ⟨0, 0, by decide, by decide, i_ 0 8 0 (by decide), i_ 0 9 0 (by decide), i_ 264 26 0 (by decide), fun k hk => absurd hk (z k)⟩, ?_, TAP.no (i_ 1 1 0 (by decide)) (i_ 264 2 0 (by decide)), ⟨⟨i_ 96 0 0 (by decide), i_ 97 0 0 (by decide), i_ 98 0 0 (by decide)⟩, ⟨i_ 26 0 1 (by decide), i_ 30 0 0 (by decide), i_ 57 0 1 (by decide), i_ 61 0 0 (by decide)⟩, l_⟩⟩
  · rw [e3]; exact i_ 3 5 20 (by decide)
  · rw [i_ 270 4 30 (by decide)]; exact i_ 3 6 30 (by decide)
  · rw [i_ 270 5 1 (by decide)]; exact i_ 3 7 1 (by decide)
  · rw [e3]; exact i_ 264 28 20 (by decide)
  · rw [i_ 280 0 0 (by decide)]; exact i_ 73 0 0 (by decide)
  · have lf : ∀ t, t < 6 → goB (I 280) t = false := fun t ht => by unfold goB; rw [hB37 t ht]; decide
    unfold bB
    rw [lf 0 (by decide), lf 1 (by decide), lf 2 (by decide), lf 3 (by decide), lf 4 (by decide), lf 5 (by decide), i_ 73 1 0 (by decide)]
    decide
  · exact i_ 73 2 0 (by decide)
  · rw [hB0 t ht]; exact hC74 t ht
  · rw [hB13 t ht]; exact hC75 t ht
  · rw [hB19 t ht]; exact hC76 t ht
  · rw [hB25 t ht]; exact hC77 t ht
  · rw [hB7 t ht]; exact hC78 t ht
  · rw [hB31 t ht]; exact hC79 t ht
  · have m0 : ∀ m, m < 4 → I 281 m = 0 := fun m hm => by
      rcases (show m = 0 ∨ m = 1 ∨ m = 2 ∨ m = 3 by omega) with rfl | rfl | rfl | rfl
      · exact i_ 281 0 0 (by decide)
      · exact i_ 281 1 0 (by decide)
      · exact i_ 281 2 0 (by decide)
      · exact i_ 281 3 0 (by decide)
    have nb : ∀ m, m < 4 → mkB I m = false := fun m hm => by unfold mkB; rw [m0 m hm]; decide
    refine ⟨?_, fun m hm => ⟨Or.inl (m0 m hm), fun y => ?_⟩⟩
    · rw [nb 0 (by decide), nb 1 (by decide), nb 2 (by decide), nb 3 (by decide), i_ 0 12 0 (by decide)]; decide
    · rw [m0 m hm] at y; exact absurd y (by decide)
