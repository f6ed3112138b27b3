/-! The places by their making, and by the names that they have here. -/
def ct_SH_0 : List dm_Sh := [.inl 10, .inl 9, .inr (2, 1000), .inl 2, .inl 8, .inr (1, 6), .inr (6, 3), .inr (0, 6), .inr (0, 6), .inr (0, 6), .inl 8, .inr (1, 6), .inr (6, 7), .inr (0, 6), .inr (0, 6), .inr (0, 6), .inr (0, 6), .inr (0, 6), .inr (0, 6), .inr (0, 6), .inl 8, .inr (1, 6), .inr (6, 3), .inr (0, 6), .inr (0, 6), .inr (0, 6), .inl 1, .inr (0, 1000), .inr (0, 4), .inr (0, 21), .inl 1, .inr (0, 1000), .inr (0, 4), .inr (0, 21), .inl 2, .inl 8, .inr (1, 6), .inr (6, 3), .inr (0, 6), .inr (0, 6), .inr (0, 6), .inl 8, .inr (1, 6), .inr (6, 7), .inr (0, 6), .inr (0, 6), .inr (0, 6), .inr (0, 6), .inr (0, 6), .inr (0, 6), .inr (0, 6), .inl 8, .inr (1, 6), .inr (6, 3), .inr (0, 6), .inr (0, 6), .inr (0, 6), .inl 1, .inr (0, 1000), .inr (0, 4)]
def ct_SH_1 : List dm_Sh := [.inr (0, 21), .inl 1, .inr (0, 1000), .inr (0, 4), .inr (0, 21), .inl 4, .inr (0, 30), .inr (0, 30), .inr (0, 30), .inl 4, .inr (0, 30), .inr (0, 30), .inr (0, 30), .inl 7, .inr (0, 6), .inr (0, 6), .inr (0, 6), .inr (0, 6), .inr (0, 6), .inr (0, 6), .inr (0, 6), .inl 7, .inr (0, 6), .inr (0, 6), .inr (0, 6), .inr (0, 6), .inr (0, 6), .inr (0, 6), .inr (0, 6), .inr (5, 16), .inr (5, 4), .inr (4, 4), .inl 6, .inr (0, 6), .inr (0, 6), .inl 5, .inr (0, 6), .inr (0, 6), .inr (0, 7), .inr (0, 7), .inr (0, 7), .inl 3, .inr (0, 6), .inl 0, .inr (0, 6), .inr (0, 6), .inr (0, 6), .inr (6, 6), .inr (0, 241), .inr (0, 241), .inr (0, 241), .inr (0, 241), .inr (0, 241), .inr (0, 241), .inl 7, .inr (0, 6), .inr (0, 6), .inr (0, 6), .inr (0, 6), .inr (0, 6)]
def ct_SH_2 : List dm_Sh := [.inr (0, 6), .inr (0, 6), .inl 7, .inr (0, 6), .inr (0, 6), .inr (0, 6), .inr (0, 6), .inr (0, 6), .inr (0, 6), .inr (0, 6), .inl 7, .inr (0, 6), .inr (0, 6), .inr (0, 6), .inr (0, 6), .inr (0, 6), .inr (0, 6), .inr (0, 6), .inl 7, .inr (0, 6), .inr (0, 6), .inr (0, 6), .inr (0, 6), .inr (0, 6), .inr (0, 6), .inr (0, 6), .inl 7, .inr (0, 6), .inr (0, 6), .inr (0, 6), .inr (0, 6), .inr (0, 6), .inr (0, 6), .inr (0, 6), .inl 7, .inr (0, 6), .inr (0, 6), .inr (0, 6), .inr (0, 6), .inr (0, 6), .inr (0, 6), .inr (0, 6), .inl 7, .inr (0, 6), .inr (0, 6), .inr (0, 6), .inr (0, 6), .inr (0, 6), .inr (0, 6), .inr (0, 6), .inl 7, .inr (0, 6), .inr (0, 6), .inr (0, 6), .inr (0, 6), .inr (0, 6), .inr (0, 6), .inr (0, 6), .inl 7, .inr (0, 6)]
def ct_SH_3 : List dm_Sh := [.inr (0, 6), .inr (0, 6), .inr (0, 6), .inr (0, 6), .inr (0, 6), .inr (0, 6), .inl 7, .inr (0, 6), .inr (0, 6), .inr (0, 6), .inr (0, 6), .inr (0, 6), .inr (0, 6), .inr (0, 6), .inl 7, .inr (0, 6), .inr (0, 6), .inr (0, 6), .inr (0, 6), .inr (0, 6), .inr (0, 6), .inr (0, 6), .inl 7, .inr (0, 6), .inr (0, 6), .inr (0, 6), .inr (0, 6), .inr (0, 6), .inr (0, 6), .inr (0, 6), .inl 7, .inr (0, 6), .inr (0, 6), .inr (0, 6), .inr (0, 6), .inr (0, 6), .inr (0, 6), .inr (0, 6), .inl 7, .inr (0, 6), .inr (0, 6), .inr (0, 6), .inr (0, 6), .inr (0, 6), .inr (0, 6), .inr (0, 6), .inl 7, .inr (0, 6), .inr (0, 6), .inr (0, 6), .inr (0, 6), .inr (0, 6), .inr (0, 6), .inr (0, 6), .inl 7, .inr (0, 6), .inr (0, 6), .inr (0, 6), .inr (0, 6), .inr (0, 6)]
def ct_SH_4 : List dm_Sh := [.inr (0, 6), .inr (0, 6), .inl 7, .inr (0, 6), .inr (0, 6), .inr (0, 6), .inr (0, 6), .inr (0, 6), .inr (0, 6), .inr (0, 6), .inl 6, .inr (0, 6), .inr (0, 6), .inl 7, .inr (0, 6), .inr (0, 6), .inr (0, 6), .inr (0, 6), .inr (0, 6), .inr (0, 6), .inr (0, 6), .inl 6, .inr (0, 6), .inr (0, 6), .inl 7, .inr (0, 6), .inr (0, 6), .inr (0, 6), .inr (0, 6), .inr (0, 6), .inr (0, 6), .inr (0, 6), .inl 6, .inr (0, 6), .inr (0, 6), .inl 7, .inr (0, 6), .inr (0, 6), .inr (0, 6), .inr (0, 6), .inr (0, 6), .inr (0, 6), .inr (0, 6), .inl 6, .inr (0, 6), .inr (0, 6), .inl 11, .inr (0, 1000), .inr (0, 1002), .inr (0, 1002), .inr (1, 1002), .inr (1, 37), .inr (0, 240), .inr (0, 2200), .inr (0, 2200), .inr (1, 18), .inr (1, 18), .inr (0, 18), .inr (0, 18), .inr (0, 200)]
def ct_SH_5 : List dm_Sh := [.inr (0, 5), .inr (0, 1100), .inr (0, 1288), .inr (3, 4), .inr (0, 6), .inr (0, 6), .inr (0, 36), .inr (0, 6), .inr (0, 6), .inr (0, 6), .inr (0, 1446), .inr (1, 1)]
def ct_SH : List dm_Sh := ct_SH_0 ++ (ct_SH_1 ++ (ct_SH_2 ++ (ct_SH_3 ++ (ct_SH_4 ++ (ct_SH_5)))))
def ph_t_0 : List Nat := [0, 1, 2, 3, 4, 5, 6, 7, 8, 9, 10, 11, 12, 13, 14, 15, 16, 17, 18, 19, 20, 21, 22, 23, 24, 25, 26, 27, 28, 29, 30, 31, 32, 33, 34, 35, 36, 37, 38, 39, 40, 41, 42, 43, 44, 45, 46, 47, 48, 49, 50, 51, 52, 53, 54, 55, 56, 57, 58, 59]
def ph_t_1 : List Nat := [60, 61, 62, 63, 64, 65, 66, 67, 68, 69, 70, 71, 72, 73, 74, 75, 76, 77, 78, 79, 81, 82, 83, 84, 85, 86, 87, 89, 90, 91, 92, 93, 94, 95, 96, 97, 98, 99, 100, 101, 102, 103, 104, 105, 106, 107, 108, 109, 110, 111, 112, 113, 114, 115, 116, 117, 118, 119, 120, 122]
def ph_t_2 : List Nat := [123, 124, 125, 126, 127, 128, 130, 131, 132, 133, 134, 135, 136, 138, 139, 140, 141, 142, 143, 144, 146, 147, 148, 149, 150, 151, 152, 154, 155, 156, 157, 158, 159, 160, 162, 163, 164, 165, 166, 167, 168, 170, 171, 172, 173, 174, 175, 176, 178, 179, 180, 181, 182, 183, 184, 186, 187, 188, 189, 190]
def ph_t_3 : List Nat := [191, 192, 194, 195, 196, 197, 198, 199, 200, 202, 203, 204, 205, 206, 207, 208, 210, 211, 212, 213, 214, 215, 216, 218, 219, 220, 221, 222, 223, 224, 226, 227, 228, 229, 230, 231, 232, 234, 235, 236, 237, 238, 239, 240, 242, 243, 244, 245, 246, 247, 248, 250, 251, 252, 253, 254, 255, 256, 257, 258]
def ph_t_4 : List Nat := [259, 261, 262, 263, 264, 265, 266, 267, 268, 269, 270, 272, 273, 274, 275, 276, 277, 278, 279, 280, 281, 283, 284, 285, 286, 287, 288, 289, 290, 291, 292, 293, 294, 295, 296, 297, 298, 299, 300, 301, 302, 303, 304, 305, 306, 307, 308, 309, 310, 311, 80, 88, 121, 129, 137, 145, 153, 161, 169, 177]
def ph_t_5 : List Nat := [185, 193, 201, 209, 217, 225, 233, 241, 249, 260, 271, 282]
def ph_t : List Nat := ph_t_0 ++ (ph_t_1 ++ (ph_t_2 ++ (ph_t_3 ++ (ph_t_4 ++ (ph_t_5)))))
def ps_t_0 : List Nat := [0, 1, 2, 3, 4, 5, 6, 7, 8, 9, 10, 11, 12, 13, 14, 15, 16, 17, 18, 19, 20, 21, 22, 23, 24, 25, 26, 27, 28, 29, 30, 31, 32, 33, 34, 35, 36, 37, 38, 39, 40, 41, 42, 43, 44, 45, 46, 47, 48, 49, 50, 51, 52, 53, 54, 55, 56, 57, 58, 59]
def ps_t_1 : List Nat := [60, 61, 62, 63, 64, 65, 66, 67, 68, 69, 70, 71, 72, 73, 74, 75, 76, 77, 78, 79, 290, 80, 81, 82, 83, 84, 85, 86, 291, 87, 88, 89, 90, 91, 92, 93, 94, 95, 96, 97, 98, 99, 100, 101, 102, 103, 104, 105, 106, 107, 108, 109, 110, 111, 112, 113, 114, 115, 116, 117]
def ps_t_2 : List Nat := [118, 292, 119, 120, 121, 122, 123, 124, 125, 293, 126, 127, 128, 129, 130, 131, 132, 294, 133, 134, 135, 136, 137, 138, 139, 295, 140, 141, 142, 143, 144, 145, 146, 296, 147, 148, 149, 150, 151, 152, 153, 297, 154, 155, 156, 157, 158, 159, 160, 298, 161, 162, 163, 164, 165, 166, 167, 299, 168, 169]
def ps_t_3 : List Nat := [170, 171, 172, 173, 174, 300, 175, 176, 177, 178, 179, 180, 181, 301, 182, 183, 184, 185, 186, 187, 188, 302, 189, 190, 191, 192, 193, 194, 195, 303, 196, 197, 198, 199, 200, 201, 202, 304, 203, 204, 205, 206, 207, 208, 209, 305, 210, 211, 212, 213, 214, 215, 216, 306, 217, 218, 219, 220, 221, 222]
def ps_t_4 : List Nat := [223, 307, 224, 225, 226, 227, 228, 229, 230, 308, 231, 232, 233, 234, 235, 236, 237, 238, 239, 240, 309, 241, 242, 243, 244, 245, 246, 247, 248, 249, 250, 310, 251, 252, 253, 254, 255, 256, 257, 258, 259, 260, 311, 261, 262, 263, 264, 265, 266, 267, 268, 269, 270, 271, 272, 273, 274, 275, 276, 277]
def ps_t_5 : List Nat := [278, 279, 280, 281, 282, 283, 284, 285, 286, 287, 288, 289]
def ps_t : List Nat := ps_t_0 ++ (ps_t_1 ++ (ps_t_2 ++ (ps_t_3 ++ (ps_t_4 ++ (ps_t_5)))))
def ph (p : Nat) : Nat := if p < 312 then ph_t.getD p 0 else p
def ps (p : Nat) : Nat := if p < 312 then ps_t.getD p 0 else p
set_option maxRecDepth 100000 in
theorem ph_ck : (List.range 312).all (fun p => decide (ps (ph p) = p) && (decide (ph (ps p) = p) && (decide (ph p < 312) && decide (ct_SH[ph p]? = ly_SH[p]?)))) = true := by decide +kernel
theorem ph_at {p : Nat} (h : p < 312) : ps (ph p) = p ∧ ph (ps p) = p ∧ ph p < 312 ∧ ct_SH[ph p]? = ly_SH[p]? := by
  have e := List.all_eq_true.mp ph_ck p (List.mem_range.mpr h)
  simp only [Bool.and_eq_true, decide_eq_true_eq] at e
  exact e
theorem ph_hi {p : Nat} (h : 312 ≤ p) : ph p = p := by unfold ph; rw [if_neg (by omega)]
theorem ps_hi {p : Nat} (h : 312 ≤ p) : ps p = p := by unfold ps; rw [if_neg (by omega)]
theorem ph_ps (p : Nat) : ph (ps p) = p := by
  by_cases h : p < 312
  · exact (ph_at h).2.1
  · rw [ps_hi (by omega), ph_hi (by omega)]
theorem ps_ph (p : Nat) : ps (ph p) = p := by
  by_cases h : p < 312
  · exact (ph_at h).1
  · rw [ph_hi (by omega), ps_hi (by omega)]
theorem ph_ok : PhO ph := ⟨fun p q e => by rw [← ps_ph p, e, ps_ph], fun p h => ph_hi h, fun p h => (ph_at h).2.2.1⟩
theorem ly_len : ly_SH.length = 312 := by decide +kernel
theorem ct_len : ct_SH.length = 312 := by decide +kernel
theorem ct_sum : (ct_SH.map dm_sz).sum = (ly_SH.map dm_sz).sum := by decide +kernel
/-- the store under the names of here -/
def un (τ : dm_St) : dm_St := (ly_SH, τ.2.1, fun p k => τ.2.2.1 (ph p) k, fun p k => τ.2.2.2.1 (ph p) k, fun p k => rv ps (τ.2.2.2.2 (ph p) k))
theorem rv_un (v : Value) : rv ph (rv ps v) = v := by
  cases v with
  | ref p => show Value.ref (ph (ps p)) = _; rw [ph_ps]
  | _ => rfl
theorem RN_un {τ : dm_St} (h : τ.1 = ct_SH) : RN ph (un τ) τ := by
  refine ⟨by show 312 ≤ ly_SH.length; rw [ly_len]; exact Nat.le_refl _, by show τ.1.length = ly_SH.length; rw [h, ly_len, ct_len], fun p => ?_, rfl, fun _ _ => rfl, fun _ _ => rfl, fun p k => (rv_un _).symm⟩
  show τ.1[ph p]? = ly_SH[p]?
  rw [h]
  by_cases hp : p < 312
  · exact (ph_at hp).2.2.2
  · rw [ph_hi (by omega), List.getElem?_eq_none (by rw [ct_len]; omega), List.getElem?_eq_none (by rw [ly_len]; omega)]
theorem RN_sh {σ τ : dm_St} (hr : RN ph σ τ) (h : σ.1 = ly_SH) : τ.1 = ct_SH := by
  apply List.ext_getElem?
  intro p
  by_cases hp : p < 312
  · have e := hr.2.2.1 (ps p)
    have hps : ps p < 312 := by
      rcases Nat.lt_or_ge (ps p) 312 with z | z
      · exact z
      · have := ph_hi z
        rw [ph_ps] at this
        omega
    rw [ph_ps, h, ← (ph_at hps).2.2.2, ph_ps] at e
    exact e
  · rw [List.getElem?_eq_none (by rw [hr.2.1, h, ly_len]; omega), List.getElem?_eq_none (by rw [ct_len]; omega)]
set_option maxRecDepth 1000000 in
theorem ct_ok : (ct_1.bind ct_2).map (fun τ => decide (τ.1 = ct_SH) && ct_ck (un τ)) = some true := by decide +kernel
