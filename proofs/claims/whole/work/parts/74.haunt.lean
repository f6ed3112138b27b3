/-! Public question: haunt. -/
theorem and1 (x : Int32) : x &&& 1 = 0 ∨ x &&& 1 = 1 := by
  have h : (x &&& 1).toBitVec = x.toBitVec &&& 1#32 := rfl
  rw [BitVec.and_one_eq_setWidth_ofBool_getLsbD] at h
  cases hb : x.toBitVec.getLsbD 0 with
  | false => rw [hb] at h; exact Or.inl (Int32.toBitVec_inj.mp (h.trans (by decide)))
  | true => rw [hb] at h; exact Or.inr (Int32.toBitVec_inj.mp (h.trans (by decide)))
def bitV (s : Int32) (i : Nat) : Int32 := s >>> (nI i &&& 31) &&& 1
theorem bit01 (s : Int32) (i : Nat) : bitV s i = 0 ∨ bitV s i = 1 := and1 _
def hnY (H : Nat → Int32) (k : Nat) (v s : Int32) (i : Nat) (X : Nat → Int32) : Nat → Int32 := if bitV s i = 0 then X else frightB H X k v
def hnS (H : Nat → Int32) (br : Int32) (n k : Nat) (v s : Int32) (i : Nat) (X : Nat → Int32) : Nat → Int32 := minB H br n (hnY H k v s i X)
def hnX (H : Nat → Int32) (br : Int32) (n k : Nat) (v s : Int32) (B : Nat → Int32) (i : Nat) : Nat → Int32 := itB (hnS H br n k v s) i B
def hntV (H : Nat → Int32) (br : Int32) (n k : Nat) (v s : Int32) (B : Nat → Int32) : Int32 := hnX H br n k v s B 12 (7 + k) - B (7 + k)
theorem hnY_w {nr n K k i ne : Nat} {H X : Nat → Int32} {v s : Int32} (wh : WFH H nr n ne) (hv : 1 ≤ v ∧ v ≤ 99) (w : WFB nr n K X) (hk : k < n) (hn : n ≤ 6) : WFB nr n (K + 1) (hnY H k v s i X) := by
  unfold hnY
  split
  · exact w.K (by omega)
  · obtain ⟨z, hz, ez⟩ := nI_lt2 (N := 100) (by decide) (Int32.le_trans (by decide) hv.1) (Int32.lt_of_le_of_lt hv.2 (by decide))
    rw [ez]; exact w.fright wh hk (by omega)
theorem hnX_w {nr n K k ne : Nat} {H B : Nat → Int32} {br v s : Int32} (wh : WFH H nr n ne) (hv : 1 ≤ v ∧ v ≤ 99) (w : WFB nr n K B) (hk : k < n) (hn : n ≤ 6) : ∀ i, WFB nr n (K + i) (hnX H br n k v s B i)
  | 0 => w
  | i + 1 => WFB.min (hnY_w wh hv (hnX_w wh hv w hk hn i) hk hn) hn
/-! a minute, place by place -/
theorem pRv_congr {H B B' : Nat → Int32} {br : Int32} {n j : Nat} (hj : j < 6) (hn : n ≤ 6) (h1 : ∀ t, t < 6 → B' (1 + t) = B (1 + t)) (h2 : B' (13 + j) = B (13 + j)) (h3 : B' (19 + j) = B (19 + j)) : pRv H B' br n 0 j = pRv H B br n 0 j := by
  unfold pRv
  have e1 : ∀ e, e < 6 → B' (0 + 1 + e) = B (0 + 1 + e) := fun e he => by have := h1 e he; rwa [Nat.zero_add]
  rw [Nat.zero_add, Nat.zero_add, h2, h3, e1 j hj, lvF_congr (f' := fun e => H (56 + 6 * j + e)) (g' := fun e => B (0 + 1 + e)) n 0 0 (fun e a1 a2 => ⟨rfl, e1 e (by omega)⟩)]
theorem cntI_at {H B : Nat → Int32} {br : Int32} {n : Nat} (hn : n ≤ 6) : ∀ j, j ≤ n → ∀ i, (itB (cntS H br n) j (B, 0)).1 i = if 7 ≤ i ∧ i < 7 + j ∧ ¬ B (1 + (i - 7)) = -1 then B i + pRv H B br n 0 (i - 7) * H 5 else B i
  | 0, _, i => by rw [if_neg (by omega)]; rfl
  | j + 1, hj, i => by
    have ih := cntI_at (H := H) (B := B) (br := br) hn j (by omega)
    rw [itB_s]
    have e1 : ∀ i, i < 7 ∨ 7 + j ≤ i → (itB (cntS H br n) j (B, 0)).1 i = B i := fun i hi => by rw [ih i, if_neg (by omega)]
    unfold cntS
    by_cases h : (itB (cntS H br n) j (B, 0)).1 (1 + j) = -1
    · have hb : B (1 + j) = -1 := by rw [← e1 (1 + j) (by omega)]; exact h
      have h' := h
      unfold cntS at h'
      rw [if_pos h']
      have ih' := ih i
      unfold cntS at ih'
      rw [ih']
      by_cases e : i = 7 + j
      · subst e
        rw [if_neg (by omega), if_neg (fun z => z.2.2 (by rw [show 7 + j - 7 = j by omega]; exact hb))]
      · have e2 : (7 ≤ i ∧ i < 7 + (j + 1) ∧ ¬ B (1 + (i - 7)) = -1) ↔ (7 ≤ i ∧ i < 7 + j ∧ ¬ B (1 + (i - 7)) = -1) := by
          constructor
          · rintro ⟨a, b, c⟩; exact ⟨a, by omega, c⟩
          · rintro ⟨a, b, c⟩; exact ⟨a, by omega, c⟩
        simp only [e2]
    · have hb : ¬ B (1 + j) = -1 := by rw [← e1 (1 + j) (by omega)]; exact h
      have h' := h
      unfold cntS at h'
      rw [if_neg h']
      have ih' := ih
      unfold cntS at ih'
      have e1' := e1
      unfold cntS at e1'
      show upd _ (7 + j) _ i = _
      by_cases e : i = 7 + j
      · subst e
        rw [upd_eq, e1' (7 + j) (by omega), pRv_congr (B := B) (by omega) hn (fun t ht => e1' (1 + t) (by omega)) (e1' (13 + j) (by omega)) (e1' (19 + j) (by omega)), if_pos ⟨by omega, by omega, by rw [show 7 + j - 7 = j by omega]; exact hb⟩, show 7 + j - 7 = j by omega]
      · rw [upd_ne e, ih' i]
        have e2 : (7 ≤ i ∧ i < 7 + (j + 1) ∧ ¬ B (1 + (i - 7)) = -1) ↔ (7 ≤ i ∧ i < 7 + j ∧ ¬ B (1 + (i - 7)) = -1) := by
          constructor
          · rintro ⟨a, b, c⟩; exact ⟨a, by omega, c⟩
          · rintro ⟨a, b, c⟩; exact ⟨a, by omega, c⟩
        simp only [e2]
theorem calI_at {H B : Nat → Int32} : ∀ j, j ≤ 6 → ∀ i, itB (calS H) j B i = if 13 ≤ i ∧ i < 13 + j then clV H (i - 13) (B i) else if 19 ≤ i ∧ i < 19 + j then cuV (B i) else B i
  | 0, _, i => by rw [if_neg (by omega), if_neg (by omega)]; rfl
  | j + 1, hj, i => by
    have ih := calI_at (H := H) (B := B) j (by omega)
    have es : itB (calS H) (j + 1) B = calS H j (itB (calS H) j B) := rfl
    rw [es]
    generalize itB (calS H) j B = X at ih ⊢
    unfold calS
    by_cases e1 : i = 19 + j
    · subst e1
      rw [upd_eq, ih (19 + j), if_neg (by omega), if_neg (by omega)]
      simp only [show ¬ (13 ≤ 19 + j ∧ 19 + j < 13 + (j + 1)) by omega, show 19 ≤ 19 + j by omega, show 19 + j < 19 + (j + 1) by omega, and_self, if_true, if_false]
    · rw [upd_ne e1]
      by_cases e2 : i = 13 + j
      · subst e2
        rw [upd_eq, ih (13 + j), if_neg (by omega), if_neg (by omega)]
        simp only [show 13 ≤ 13 + j by omega, show 13 + j < 13 + (j + 1) by omega, and_self, if_true, show 13 + j - 13 = j by omega]
      · rw [upd_ne e2, ih i]
        have e3 : (13 ≤ i ∧ i < 13 + (j + 1)) ↔ (13 ≤ i ∧ i < 13 + j) := by omega
        have e4 : (19 ≤ i ∧ i < 19 + (j + 1)) ↔ (19 ≤ i ∧ i < 19 + j) := by omega
        simp only [e3, e4]
theorem cntP_at {H B : Nat → Int32} {br : Int32} {n : Nat} (hn : n ≤ 6) (i : Nat) : (cntP H br n B).1 i = if B 0 - B 0 / H 5 * H 5 = 0 ∧ 7 ≤ i ∧ i < 7 + n ∧ ¬ B (1 + (i - 7)) = -1 then B i + pRv H B br n 0 (i - 7) * H 5 else B i := by
  unfold cntP
  by_cases h : B 0 - B 0 / H 5 * H 5 = 0
  · rw [if_pos h, cntI_at hn n (Nat.le_refl n) i]
    simp only [h, true_and]
  · rw [if_neg h, if_neg (fun z => h z.1)]
theorem minB_at {H B : Nat → Int32} {br : Int32} {n : Nat} (hn : n ≤ 6) {i : Nat} (hi : ¬ i = 0) : minB H br n B i = if 13 ≤ i ∧ i < 13 + n then clV H (i - 13) ((cntP H br n B).1 i) else if 19 ≤ i ∧ i < 19 + n then cuV ((cntP H br n B).1 i) else (cntP H br n B).1 i := by
  unfold minB
  rw [upd_ne hi, calI_at n hn i]
theorem minB_x {H B : Nat → Int32} {br : Int32} {n k : Nat} (hn : n ≤ 6) (hk : k < n) (hi : ¬ B (1 + k) = -1) : minB H br n B (7 + k) = (if B 0 - B 0 / H 5 * H 5 = 0 then B (7 + k) + pRv H B br n 0 k * H 5 else B (7 + k)) ∧ minB H br n B (13 + k) = clV H k (B (13 + k)) ∧ minB H br n B (19 + k) = cuV (B (19 + k)) ∧ minB H br n B (25 + k) = B (25 + k) ∧ minB H br n B 0 = B 0 + 1 ∧ ∀ t, t < 6 → minB H br n B (1 + t) = B (1 + t) := by
  refine ⟨?_, ?_, ?_, ?_, ?_, fun t ht => ?_⟩
  · rw [minB_at hn (by omega), if_neg (by omega), if_neg (by omega), cntP_at hn]
    rw [show 7 + k - 7 = k by omega]
    simp only [show 7 ≤ 7 + k by omega, show 7 + k < 7 + n by omega, hi, not_false_eq_true, and_true]
  · rw [minB_at hn (by omega), if_pos (by omega), cntP_at hn, if_neg (by omega), show 13 + k - 13 = k by omega]
  · rw [minB_at hn (by omega), if_neg (by omega), if_pos (by omega), cntP_at hn, if_neg (by omega)]
  · rw [minB_at hn (by omega), if_neg (by omega), if_neg (by omega), cntP_at hn, if_neg (by omega)]
  · unfold minB
    rw [upd_eq, calI_at n hn 0, if_neg (by omega), if_neg (by omega), cntP_at hn, if_neg (by omega)]
  · rw [minB_at hn (by omega), if_neg (by omega), if_neg (by omega), cntP_at hn, if_neg (by omega)]
theorem hnY_x {H X : Nat → Int32} {k i : Nat} {v s : Int32} : hnY H k v s i X (7 + k) = X (7 + k) ∧ hnY H k v s i X (13 + k) = (if bitV s i = 0 then X (13 + k) else X (13 + k) + frV H k v (X (25 + k))) ∧ hnY H k v s i X (19 + k) = X (19 + k) ∧ hnY H k v s i X (25 + k) = (if bitV s i = 0 then X (25 + k) else X (25 + k) + 1) ∧ hnY H k v s i X 0 = X 0 ∧ ∀ t, t < 6 → hnY H k v s i X (1 + t) = X (1 + t) := by
  unfold hnY
  by_cases h : bitV s i = 0
  · simp only [h, if_true]
    exact ⟨trivial, trivial, trivial, trivial, trivial, fun _ _ => trivial⟩
  · simp only [h, if_false]
    unfold frightB
    refine ⟨?_, ?_, ?_, ?_, ?_, fun t ht => ?_⟩
    · rw [upd_ne (by omega), upd_ne (by omega)]
    · rw [upd_ne (by omega), upd_eq]
    · rw [upd_ne (by omega), upd_ne (by omega)]
    · rw [upd_eq]
    · rw [upd_ne (by omega), upd_ne (by omega)]
    · rw [upd_ne (by omega), upd_ne (by omega)]
/-- what stays, what falls -/
theorem hnX_i {nr n K k c : Nat} {H B : Nat → Int32} {br v s : Int32} (w : WFB nr n K B) (hk : k < n) (hn : n ≤ 6) (hi : ¬ B (1 + k) = -1) (hc : c ≤ 120) (ec : B (19 + k) = nI c) : ∀ i, (∀ t, t < 6 → hnX H br n k v s B i (1 + t) = B (1 + t)) ∧ hnX H br n k v s B i 0 = B 0 + nI i ∧ hnX H br n k v s B i (19 + k) = nI (c - i)
  | 0 => ⟨fun _ _ => rfl, (Int32.add_zero _).symm, ec⟩
  | i + 1 => by
    obtain ⟨h1, h2, h3⟩ := hnX_i w hk hn hi hc ec (br := br) (v := v) (s := s) (H := H) i
    have es : hnX H br n k v s B (i + 1) = minB H br n (hnY H k v s i (hnX H br n k v s B i)) := rfl
    rw [es]
    generalize hnX H br n k v s B i = X at h1 h2 h3 ⊢
    obtain ⟨y7, y13, y19, y25, y0, y1⟩ := hnY_x (H := H) (X := X) (k := k) (i := i) (v := v) (s := s)
    have hiY : ¬ hnY H k v s i X (1 + k) = -1 := by rw [y1 k (by omega), h1 k (by omega)]; exact hi
    obtain ⟨m7, m13, m19, m25, m0, m1⟩ := minB_x (H := H) (br := br) hn hk hiY
    refine ⟨fun t ht => by rw [m1 t ht, y1 t ht, h1 t ht], ?_, ?_⟩
    · rw [m0, y0, h2, Int32.add_assoc, xa_1]
    · rw [m19, y19, h3, cu_le (by omega) rfl, show c - (i + 1) = c - i - 1 by omega]
