/-! Houses: the lines in turn. -/
abbrev Hd : Type := (Nat → Int32) × ((Nat → List Nat) × (Nat → Nat) × Nat) × ((Nat → Nat) × (Nat → Nat) × (Nat → Nat)) × (Nat × Nat × Nat) × (Fml × Fml) × Nat × Bool × Bool
def hLn (cs : Nat → Nat) (sz : Nat) (c : Cu) : Hd → Cu × Hd
  | (H, (wd, kd, nm), (ri, ti, ei), (nr, n, ne), (D, W), cd, ct, et) =>
    if aW cs sz 0 c = true then ((aFa cs sz 3 0 999 (aFa cs sz 2 0 20 (aFa cs sz 1 0 60 (aNm cs sz (decide (nr = 6)) (fdA wd nm) c)))), (rmH H nr (nI (aFv cs sz 1 (aNm cs sz (decide (nr = 6)) (fdA wd nm) c))) (nI (aFv cs sz 2 (aFa cs sz 1 0 60 (aNm cs sz (decide (nr = 6)) (fdA wd nm) c)))) (nI (aFv cs sz 3 (aFa cs sz 2 0 20 (aFa cs sz 1 0 60 (aNm cs sz (decide (nr = 6)) (fdA wd nm) c))))), (upW wd nm (aTw cs sz (aAd c)), upN kd nm nr, nm + 1), (upN ri nr nm, ti, ei), (nr + 1, n, ne), (D, W), cd, ct, et)) else
    if aW cs sz 4 c = true then ((aHm cs sz (lkA 0 wd kd nm) (fun v => occ H v n) (aFa cs sz 7 0 9999 (aFa cs sz 6 0 40 (aFa cs sz 5 40 99 (aKd cs sz (aNm cs sz (decide (n = 6)) (fdA wd nm) c)))))), (tnH H n (nI (aKv cs sz (aNm cs sz (decide (n = 6)) (fdA wd nm) c))) (nI (aFv cs sz 5 (aKd cs sz (aNm cs sz (decide (n = 6)) (fdA wd nm) c)))) (nI (aFv cs sz 6 (aFa cs sz 5 40 99 (aKd cs sz (aNm cs sz (decide (n = 6)) (fdA wd nm) c))))) (nI (aFv cs sz 7 (aFa cs sz 6 0 40 (aFa cs sz 5 40 99 (aKd cs sz (aNm cs sz (decide (n = 6)) (fdA wd nm) c)))))) (aHo cs sz (lkA 0 wd kd nm) (aFa cs sz 7 0 9999 (aFa cs sz 6 0 40 (aFa cs sz 5 40 99 (aKd cs sz (aNm cs sz (decide (n = 6)) (fdA wd nm) c)))))), (upW wd nm (aTw cs sz (aAd c)), upN kd nm (20 + n), nm + 1), (ri, upN ti n nm, ei), (nr, n + 1, ne), (D, W), cd, ct, et)) else
    if aW cs sz 9 c = true then ((aLv cs sz (lkA 20 wd kd nm) H c), (lvH H ((lvO1 cs sz (lkA 20 wd kd nm) c).getD 0) ((lvO2 cs sz (lkA 20 wd kd nm) c).getD 0), (wd, kd, nm), (ri, ti, ei), (nr, n, ne), (D, W), cd, ct, et)) else
    if aW cs sz 10 c = true then ((aFa cs sz 13 0 60 (aFa cs sz 12 1 20 (aFa cs sz 11 0 99 (aNm cs sz (decide (ne = 6)) (fdA wd nm) c)))), (eaH H ne (nI (aFv cs sz 11 (aNm cs sz (decide (ne = 6)) (fdA wd nm) c))) (nI (aFv cs sz 12 (aFa cs sz 11 0 99 (aNm cs sz (decide (ne = 6)) (fdA wd nm) c)))) (nI (aFv cs sz 13 (aFa cs sz 12 1 20 (aFa cs sz 11 0 99 (aNm cs sz (decide (ne = 6)) (fdA wd nm) c))))), (upW wd nm (aTw cs sz (aAd c)), upN kd nm 40, nm + 1), (ri, ti, upN ei ne nm), (nr, n, ne + 1), (D, W), cd, ct, et)) else
    if aW cs sz 14 c = true then ((aFa cs sz 15 1 120 (aFa cs sz 14 0 60 (aFu cs sz 3 ct c))), (upd (upd H 3 (nI (aFv cs sz 14 (aFu cs sz 3 ct c)))) 4 (nI (aFv cs sz 15 (aFa cs sz 14 0 60 (aFu cs sz 3 ct c)))), (wd, kd, nm), (ri, ti, ei), (nr, n, ne), (D, W), cd, true, et)) else
    if aW cs sz 16 c = true then ((aFa cs sz 16 1 30 (aFu cs sz 3 et c)), (upd H 5 (nI (aFv cs sz 16 (aFu cs sz 3 et c))), (wd, kd, nm), (ri, ti, ei), (nr, n, ne), (D, W), cd, ct, true)) else
    if aW cs sz 17 c = true then ((aAll cs sz (aPt cs sz fbD 5) (aAd (aFu cs sz 3 D.isSome c), (fun _ => (0, 0)), 0)).1, (upd H 6 (nI cd), (wd, kd, nm), (ri, ti, ei), (nr, n, ne), (some ((aAll cs sz (aPt cs sz fbD 5) (aAd (aFu cs sz 3 D.isSome c), (fun _ => (0, 0)), 0)).2.1, (aAll cs sz (aPt cs sz fbD 5) (aAd (aFu cs sz 3 D.isSome c), (fun _ => (0, 0)), 0)).2.2), W), cd + (aAll cs sz (aPt cs sz fbD 5) (aAd (aFu cs sz 3 D.isSome c), (fun _ => (0, 0)), 0)).2.2 + 1, ct, et)) else
    if aW cs sz 18 c = true then ((aAll cs sz (aPt cs sz fbW 5) (aAd (aFu cs sz 3 W.isSome c), (fun _ => (0, 0)), 0)).1, (upd H 7 (nI cd), (wd, kd, nm), (ri, ti, ei), (nr, n, ne), (D, some ((aAll cs sz (aPt cs sz fbW 5) (aAd (aFu cs sz 3 W.isSome c), (fun _ => (0, 0)), 0)).2.1, (aAll cs sz (aPt cs sz fbW 5) (aAd (aFu cs sz 3 W.isSome c), (fun _ => (0, 0)), 0)).2.2)), cd + (aAll cs sz (aPt cs sz fbW 5) (aAd (aFu cs sz 3 W.isSome c), (fun _ => (0, 0)), 0)).2.2 + 1, ct, et)) else
    (aFl cs sz 1 c, (H, (wd, kd, nm), (ri, ti, ei), (nr, n, ne), (D, W), cd, ct, et))
def hSt (cs : Nat → Nat) (sz : Nat) (m : Cu × Hd) : Cu × Hd := (aNS cs sz 59 (hLn cs sz m.1 m.2).1, (hLn cs sz m.1 m.2).2)
def hMo (cs : Nat → Nat) (sz : Nat) : Nat → Cu × Hd → Cu × Hd
  | 0, m => m
  | f + 1, m => if aO cs sz m.1 = true then m else hMo cs sz f (hSt cs sz m)
def FOk (fa : Nat → Prop) (D : Fml) : Prop := ∀ q, D = some q → WFC fa q.1 q.2
def PHd (cu : Nat) : Hd → Prop
  | (H, (wd, kd, nm), (ri, ti, ei), (nr, n, ne), (D, W), cd, ct, et) => PNm wd kd nm ri ti ei nr n ne ∧ WFH H nr n ne ∧ LVo H n ∧ FOk faD D ∧ FOk faW W ∧ cd ≤ cu
theorem fbD_ok : ∀ k, k < 5 → fbD k = true → faD k := fun k _ h => by unfold fbD at h; exact (of_decide_eq_true h : k < 3)
theorem fbW_ok : ∀ k, k < 5 → fbW k = true → faW k := fun k hk h => ⟨by unfold fbW at h; exact of_decide_eq_true h, hk⟩
theorem aAd_s {c : Cu} (h : c.2 = 0) : (aAd c).1 = c.1 + 1 := by unfold aAd; rw [if_pos h]
theorem aFu_id {cs : Nat → Nat} {sz w : Nat} {b : Bool} {c : Cu} (h : b = false) : aFu cs sz w b c = c := by unfold aFu; rw [if_neg (by rw [h]; decide)]
/-- a line's cursor: moves on by one at least, if it is not a fault -/
theorem nm_mv {cs : Nat → Nat} {sz : Nat} (hs : sz ≤ 1000) {b : Bool} {fd : List Nat → Bool} {c : Cu} (h0 : c.2 = 0) (h : (aNm cs sz b fd c).2 = 0) : c.1 + 1 ≤ (aNm cs sz b fd c).1 := by
  obtain ⟨e1, -, -, -⟩ := aNm_0 h
  unfold aNm
  rw [aFu_id e1]
  have h1 := aAd_s h0
  have h2 := (Cg_n2 (cs := cs) hs fd (aAd c)).1
  have h3 : (aN2 cs sz fd (aAd c)).1 ≤ (aAd (aN2 cs sz fd (aAd c))).1 := aAd_1
  omega
section HLN
variable {cs : Nat → Nat} {sz : Nat}
theorem ok_0 {H : Nat → Int32} {wd : Nat → List Nat} {kd ri ti ei : Nat → Nat} {nm nr n ne cd : Nat} {D W : Fml} {ct et : Bool} (hs : sz ≤ 1000) {c : Cu} (h0 : c.2 = 0) (ht : ¬ tK cs sz (sP cs sz c.1) = 0) (pn : PNm wd kd nm ri ti ei nr n ne) (wf : WFH H nr n ne) (lv : LVo H n) (fD : FOk faD D) (fW : FOk faW W) (hcd : cd ≤ c.1) (z0 : aW cs sz 0 c = true) : Cg c (aFa cs sz 3 0 999 (aFa cs sz 2 0 20 (aFa cs sz 1 0 60 (aNm cs sz (decide (nr = 6)) (fdA wd nm) c)))) ∧ ((aFa cs sz 3 0 999 (aFa cs sz 2 0 20 (aFa cs sz 1 0 60 (aNm cs sz (decide (nr = 6)) (fdA wd nm) c)))).2 = 0 → c.1 + 1 ≤ (aFa cs sz 3 0 999 (aFa cs sz 2 0 20 (aFa cs sz 1 0 60 (aNm cs sz (decide (nr = 6)) (fdA wd nm) c)))).1 ∧ PHd (aFa cs sz 3 0 999 (aFa cs sz 2 0 20 (aFa cs sz 1 0 60 (aNm cs sz (decide (nr = 6)) (fdA wd nm) c)))).1 (rmH H nr (nI (aFv cs sz 1 (aNm cs sz (decide (nr = 6)) (fdA wd nm) c))) (nI (aFv cs sz 2 (aFa cs sz 1 0 60 (aNm cs sz (decide (nr = 6)) (fdA wd nm) c)))) (nI (aFv cs sz 3 (aFa cs sz 2 0 20 (aFa cs sz 1 0 60 (aNm cs sz (decide (nr = 6)) (fdA wd nm) c))))), (upW wd nm (aTw cs sz (aAd c)), upN kd nm nr, nm + 1), (upN ri nr nm, ti, ei), (nr + 1, n, ne), (D, W), cd, ct, et)) := by
  have hR6 : nr ≤ 6 := wf.1.2.2.2.1
  have hN6 : n ≤ 6 := wf.1.2.2.2.2.1
  have hE6 : ne ≤ 6 := wf.1.2.2.2.2.2
  refine ⟨(Cg_nm hs _ _ ht).trans ((Cg_fa hs _ _ _ _).trans ((Cg_fa hs _ _ _ _).trans (Cg_fa hs _ _ _ _))), fun y => ?_⟩
  obtain ⟨y2, a3, b3⟩ := aFa_0 y
  obtain ⟨y1, a2, b2⟩ := aFa_0 y2
  obtain ⟨y0, a1, b1⟩ := aFa_0 y1
  obtain ⟨w1, w2, w3, w4⟩ := aNm_0 y0
  have mv := nm_mv hs h0 y0
  have m1 := (Cg_fa (cs := cs) hs 1 0 60 (aNm cs sz (decide (nr = 6)) (fdA wd nm) c)).1
  have m2 := (Cg_fa (cs := cs) hs 2 0 20 (aFa cs sz 1 0 60 (aNm cs sz (decide (nr = 6)) (fdA wd nm) c))).1
  have m3 := (Cg_fa (cs := cs) hs 3 0 999 (aFa cs sz 2 0 20 (aFa cs sz 1 0 60 (aNm cs sz (decide (nr = 6)) (fdA wd nm) c)))).1
  have n6 : ¬ nr = 6 := of_decide_eq_false w1
  have e : c.1 + 1 ≤ (aFa cs sz 3 0 999 (aFa cs sz 2 0 20 (aFa cs sz 1 0 60 (aNm cs sz (decide (nr = 6)) (fdA wd nm) c)))).1 := by omega
  refine ⟨e, pn.room w3 w4, wf.room (by omega) b1 b2 b3, lv.cg (Nat.le_refl _) (fun i h1 h2 => ?_), fD, fW, by omega⟩
  unfold rmH
  simp (disch := omega) only [upd_ne]
theorem ok_4 {H : Nat → Int32} {wd : Nat → List Nat} {kd ri ti ei : Nat → Nat} {nm nr n ne cd : Nat} {D W : Fml} {ct et : Bool} (hs : sz ≤ 1000) {c : Cu} (h0 : c.2 = 0) (ht : ¬ tK cs sz (sP cs sz c.1) = 0) (pn : PNm wd kd nm ri ti ei nr n ne) (wf : WFH H nr n ne) (lv : LVo H n) (fD : FOk faD D) (fW : FOk faW W) (hcd : cd ≤ c.1) (z4 : aW cs sz 4 c = true) : Cg c (aHm cs sz (lkA 0 wd kd nm) (fun v => occ H v n) (aFa cs sz 7 0 9999 (aFa cs sz 6 0 40 (aFa cs sz 5 40 99 (aKd cs sz (aNm cs sz (decide (n = 6)) (fdA wd nm) c)))))) ∧ ((aHm cs sz (lkA 0 wd kd nm) (fun v => occ H v n) (aFa cs sz 7 0 9999 (aFa cs sz 6 0 40 (aFa cs sz 5 40 99 (aKd cs sz (aNm cs sz (decide (n = 6)) (fdA wd nm) c)))))).2 = 0 → c.1 + 1 ≤ (aHm cs sz (lkA 0 wd kd nm) (fun v => occ H v n) (aFa cs sz 7 0 9999 (aFa cs sz 6 0 40 (aFa cs sz 5 40 99 (aKd cs sz (aNm cs sz (decide (n = 6)) (fdA wd nm) c)))))).1 ∧ PHd (aHm cs sz (lkA 0 wd kd nm) (fun v => occ H v n) (aFa cs sz 7 0 9999 (aFa cs sz 6 0 40 (aFa cs sz 5 40 99 (aKd cs sz (aNm cs sz (decide (n = 6)) (fdA wd nm) c)))))).1 (tnH H n (nI (aKv cs sz (aNm cs sz (decide (n = 6)) (fdA wd nm) c))) (nI (aFv cs sz 5 (aKd cs sz (aNm cs sz (decide (n = 6)) (fdA wd nm) c)))) (nI (aFv cs sz 6 (aFa cs sz 5 40 99 (aKd cs sz (aNm cs sz (decide (n = 6)) (fdA wd nm) c))))) (nI (aFv cs sz 7 (aFa cs sz 6 0 40 (aFa cs sz 5 40 99 (aKd cs sz (aNm cs sz (decide (n = 6)) (fdA wd nm) c)))))) (aHo cs sz (lkA 0 wd kd nm) (aFa cs sz 7 0 9999 (aFa cs sz 6 0 40 (aFa cs sz 5 40 99 (aKd cs sz (aNm cs sz (decide (n = 6)) (fdA wd nm) c)))))), (upW wd nm (aTw cs sz (aAd c)), upN kd nm (20 + n), nm + 1), (ri, upN ti n nm, ei), (nr, n + 1, ne), (D, W), cd, ct, et)) := by
  have hR6 : nr ≤ 6 := wf.1.2.2.2.1
  have hN6 : n ≤ 6 := wf.1.2.2.2.2.1
  have hE6 : ne ≤ 6 := wf.1.2.2.2.2.2
  refine ⟨(Cg_nm hs _ _ ht).trans ((Cg_kd hs _).trans ((Cg_fa hs _ _ _ _).trans ((Cg_fa hs _ _ _ _).trans ((Cg_fa hs _ _ _ _).trans (Cg_hm hs _ _ _))))), fun y => ?_⟩
  obtain ⟨y4, hw⟩ := aHm_0 y
  obtain ⟨y3, a3, b3⟩ := aFa_0 y4
  obtain ⟨y2, a2, b2⟩ := aFa_0 y3
  obtain ⟨y1, a1, b1⟩ := aFa_0 y2
  obtain ⟨y0, k, hk1, hk2, hk3⟩ := aKd_0 y1
  obtain ⟨w1, w2, w3, w4⟩ := aNm_0 y0
  have mv := nm_mv hs h0 y0
  have m0 := (Cg_kd (cs := cs) hs (aNm cs sz (decide (n = 6)) (fdA wd nm) c)).1
  have m1 := (Cg_fa (cs := cs) hs 5 40 99 (aKd cs sz (aNm cs sz (decide (n = 6)) (fdA wd nm) c))).1
  have m2 := (Cg_fa (cs := cs) hs 6 0 40 (aFa cs sz 5 40 99 (aKd cs sz (aNm cs sz (decide (n = 6)) (fdA wd nm) c)))).1
  have m3 := (Cg_fa (cs := cs) hs 7 0 9999 (aFa cs sz 6 0 40 (aFa cs sz 5 40 99 (aKd cs sz (aNm cs sz (decide (n = 6)) (fdA wd nm) c))))).1
  have m4 := (Cg_hm (cs := cs) hs (lkA 0 wd kd nm) (fun v => occ H v n) (aFa cs sz 7 0 9999 (aFa cs sz 6 0 40 (aFa cs sz 5 40 99 (aKd cs sz (aNm cs sz (decide (n = 6)) (fdA wd nm) c)))))).1
  have n6 : ¬ n = 6 := of_decide_eq_false w1
  have e : c.1 + 1 ≤ (aHm cs sz (lkA 0 wd kd nm) (fun v => occ H v n) (aFa cs sz 7 0 9999 (aFa cs sz 6 0 40 (aFa cs sz 5 40 99 (aKd cs sz (aNm cs sz (decide (n = 6)) (fdA wd nm) c)))))).1 := by omega
  refine ⟨e, pn.tenant w3 w4, wf.tenant (by omega) (by rw [hk2]; exact hk3) a1 b1 b2 b3 ?_, lv.cg (by omega) (fun i h1 h2 => ?_), fD, fW, by omega⟩
  · by_cases zi : aW cs sz 8 (aFa cs sz 7 0 9999 (aFa cs sz 6 0 40 (aFa cs sz 5 40 99 (aKd cs sz (aNm cs sz (decide (n = 6)) (fdA wd nm) c))))) = true
    · obtain ⟨v1, r, v2, v3, v4⟩ := hw zi
      refine Or.inr ⟨r, ?_, v3, by rw [v3]; exact v4⟩
      unfold lkA lkM at v2
      -- a room that is told
      unfold kdF kdO at v2
      split at v2
      · cases v2
      · rename_i o ho
        split at ho
        · cases ho
        · rename_i i hi
          have ho := Option.some.inj ho
          split at v2
          · rename_i hr
            have v2 := Option.some.inj v2
            have hi2 := (fdL_some nm 0 i hi).2.1
            rcases pn.2.2.1 i (by omega) with ⟨q, q1, q2⟩ | ⟨q, q1, q2⟩ | ⟨q, q1, q2⟩
            · have := (pn.2.2.2.1 q q1).2; rw [← q2] at this; omega
            · have := (pn.2.2.2.2.1 q q1).2; rw [← q2] at this; omega
            · have := (pn.2.2.2.2.2.1 q q1).2; rw [← q2] at this; omega
          · cases v2
    · left; unfold aHo; rw [if_neg zi]
  · unfold tnH
    simp (disch := omega) only [upd_ne]
theorem ok_9 {H : Nat → Int32} {wd : Nat → List Nat} {kd ri ti ei : Nat → Nat} {nm nr n ne cd : Nat} {D W : Fml} {ct et : Bool} (hs : sz ≤ 1000) {c : Cu} (h0 : c.2 = 0) (ht : ¬ tK cs sz (sP cs sz c.1) = 0) (pn : PNm wd kd nm ri ti ei nr n ne) (wf : WFH H nr n ne) (lv : LVo H n) (fD : FOk faD D) (fW : FOk faW W) (hcd : cd ≤ c.1) (z9 : aW cs sz 9 c = true) : Cg c (aLv cs sz (lkA 20 wd kd nm) H c) ∧ ((aLv cs sz (lkA 20 wd kd nm) H c).2 = 0 → c.1 + 1 ≤ (aLv cs sz (lkA 20 wd kd nm) H c).1 ∧ PHd (aLv cs sz (lkA 20 wd kd nm) H c).1 (lvH H ((lvO1 cs sz (lkA 20 wd kd nm) c).getD 0) ((lvO2 cs sz (lkA 20 wd kd nm) c).getD 0), (wd, kd, nm), (ri, ti, ei), (nr, n, ne), (D, W), cd, ct, et)) := by
  have hR6 : nr ≤ 6 := wf.1.2.2.2.1
  have hN6 : n ≤ 6 := wf.1.2.2.2.2.1
  have hE6 : ne ≤ 6 := wf.1.2.2.2.2.2
  refine ⟨Cg_lv hs _ _ ht, fun y => ?_⟩
  obtain ⟨a, b, q1, q2, -, -, q3, q4, -⟩ := aLv_0 y
  have lt : ∀ (w : List Nat) (a : Nat), (lkA 20 wd kd nm) w = some a → a < n := fun w a v2 => by
    unfold lkA lkM kdF kdO at v2
    split at v2
    · cases v2
    · rename_i o ho
      split at ho
      · cases ho
      · rename_i i hi
        have ho := Option.some.inj ho
        split at v2
        · rename_i hr
          have v2 := Option.some.inj v2
          have hi2 := (fdL_some nm 0 i hi).2.1
          rcases pn.2.2.1 i (by omega) with ⟨q, q1, q2⟩ | ⟨q, q1, q2⟩ | ⟨q, q1, q2⟩
          · have := (pn.2.2.2.1 q q1).2; rw [← q2] at this; omega
          · have := (pn.2.2.2.2.1 q q1).2; rw [← q2] at this; omega
          · have := (pn.2.2.2.2.2.1 q q1).2; rw [← q2] at this; omega
        · cases v2
  have ha := lt _ a q1
  have hb := lt _ b q2
  have mv : c.1 + 1 ≤ (aLv cs sz (lkA 20 wd kd nm) H c).1 := by
    have h1 := aAd_s h0
    have h2 : (aSee cs sz (lvO1 cs sz (lkA 20 wd kd nm) c) (aAd c)).1 = (aAd c).1 := aSee_1
    have h3 : (aSee cs sz (lvO1 cs sz (lkA 20 wd kd nm) c) (aAd c)).1 ≤ (lvC2 cs sz (lkA 20 wd kd nm) c).1 := aAd_1
    have h4 : (lvC3 cs sz (lkA 20 wd kd nm) c).1 = (lvC2 cs sz (lkA 20 wd kd nm) c).1 := aSee_1
    have h5 := (Cg_fu (cs := cs) hs (show 3 ≤ 5 by decide) (aLb H (lvO1 cs sz (lkA 20 wd kd nm) c) (lvO2 cs sz (lkA 20 wd kd nm) c)) (lvC3 cs sz (lkA 20 wd kd nm) c)).1
    have h6 : (aFu cs sz 3 (aLb H (lvO1 cs sz (lkA 20 wd kd nm) c) (lvO2 cs sz (lkA 20 wd kd nm) c)) (lvC3 cs sz (lkA 20 wd kd nm) c)).1 ≤ (aLv cs sz (lkA 20 wd kd nm) H c).1 := aAd_1
    omega
  rw [q1, q2]
  refine ⟨mv, pn, wf.cg (fun i hi => ?_) ?_ (fun i h1 h2 => ?_) (fun i h1 h2 => ?_), lv.love ha hb hN6, fD, fW, by omega⟩
  · show upd H (56 + 6 * a + b) 1 i = H i
    rw [upd_ne (by omega)]
  · show (∃ c, c ≤ 60 ∧ upd H (56 + 6 * a + b) 1 3 = nI c) ∧ (∃ c, 1 ≤ c ∧ c ≤ 120 ∧ upd H (56 + 6 * a + b) 1 4 = nI c) ∧ (∃ c, 1 ≤ c ∧ c ≤ 30 ∧ upd H (56 + 6 * a + b) 1 5 = nI c)
    rw [upd_ne (by omega), upd_ne (by omega), upd_ne (by omega)]
    exact wf.2.1
  · show upd H (56 + 6 * a + b) 1 i = H i
    rw [upd_ne (by omega)]
  · show upd H (56 + 6 * a + b) 1 i = H i
    rw [upd_ne (by omega)]
theorem ok_10 {H : Nat → Int32} {wd : Nat → List Nat} {kd ri ti ei : Nat → Nat} {nm nr n ne cd : Nat} {D W : Fml} {ct et : Bool} (hs : sz ≤ 1000) {c : Cu} (h0 : c.2 = 0) (ht : ¬ tK cs sz (sP cs sz c.1) = 0) (pn : PNm wd kd nm ri ti ei nr n ne) (wf : WFH H nr n ne) (lv : LVo H n) (fD : FOk faD D) (fW : FOk faW W) (hcd : cd ≤ c.1) (z10 : aW cs sz 10 c = true) : Cg c (aFa cs sz 13 0 60 (aFa cs sz 12 1 20 (aFa cs sz 11 0 99 (aNm cs sz (decide (ne = 6)) (fdA wd nm) c)))) ∧ ((aFa cs sz 13 0 60 (aFa cs sz 12 1 20 (aFa cs sz 11 0 99 (aNm cs sz (decide (ne = 6)) (fdA wd nm) c)))).2 = 0 → c.1 + 1 ≤ (aFa cs sz 13 0 60 (aFa cs sz 12 1 20 (aFa cs sz 11 0 99 (aNm cs sz (decide (ne = 6)) (fdA wd nm) c)))).1 ∧ PHd (aFa cs sz 13 0 60 (aFa cs sz 12 1 20 (aFa cs sz 11 0 99 (aNm cs sz (decide (ne = 6)) (fdA wd nm) c)))).1 (eaH H ne (nI (aFv cs sz 11 (aNm cs sz (decide (ne = 6)) (fdA wd nm) c))) (nI (aFv cs sz 12 (aFa cs sz 11 0 99 (aNm cs sz (decide (ne = 6)) (fdA wd nm) c)))) (nI (aFv cs sz 13 (aFa cs sz 12 1 20 (aFa cs sz 11 0 99 (aNm cs sz (decide (ne = 6)) (fdA wd nm) c))))), (upW wd nm (aTw cs sz (aAd c)), upN kd nm 40, nm + 1), (ri, ti, upN ei ne nm), (nr, n, ne + 1), (D, W), cd, ct, et)) := by
  have hR6 : nr ≤ 6 := wf.1.2.2.2.1
  have hN6 : n ≤ 6 := wf.1.2.2.2.2.1
  have hE6 : ne ≤ 6 := wf.1.2.2.2.2.2
  refine ⟨(Cg_nm hs _ _ ht).trans ((Cg_fa hs _ _ _ _).trans ((Cg_fa hs _ _ _ _).trans (Cg_fa hs _ _ _ _))), fun y => ?_⟩
  obtain ⟨y2, a3, b3⟩ := aFa_0 y
  obtain ⟨y1, a2, b2⟩ := aFa_0 y2
  obtain ⟨y0, a1, b1⟩ := aFa_0 y1
  obtain ⟨w1, w2, w3, w4⟩ := aNm_0 y0
  have mv := nm_mv hs h0 y0
  have m1 := (Cg_fa (cs := cs) hs 11 0 99 (aNm cs sz (decide (ne = 6)) (fdA wd nm) c)).1
  have m2 := (Cg_fa (cs := cs) hs 12 1 20 (aFa cs sz 11 0 99 (aNm cs sz (decide (ne = 6)) (fdA wd nm) c))).1
  have m3 := (Cg_fa (cs := cs) hs 13 0 60 (aFa cs sz 12 1 20 (aFa cs sz 11 0 99 (aNm cs sz (decide (ne = 6)) (fdA wd nm) c)))).1
  have n6 : ¬ ne = 6 := of_decide_eq_false w1
  have e : c.1 + 1 ≤ (aFa cs sz 13 0 60 (aFa cs sz 12 1 20 (aFa cs sz 11 0 99 (aNm cs sz (decide (ne = 6)) (fdA wd nm) c)))).1 := by omega
  refine ⟨e, pn.errand w3 w4, wf.errand (by omega) b1 a2 b2 b3, lv.cg (Nat.le_refl _) (fun i h1 h2 => ?_), fD, fW, by omega⟩
  unfold eaH
  simp (disch := omega) only [upd_ne]
theorem ok_14 {H : Nat → Int32} {wd : Nat → List Nat} {kd ri ti ei : Nat → Nat} {nm nr n ne cd : Nat} {D W : Fml} {ct et : Bool} (hs : sz ≤ 1000) {c : Cu} (h0 : c.2 = 0) (ht : ¬ tK cs sz (sP cs sz c.1) = 0) (pn : PNm wd kd nm ri ti ei nr n ne) (wf : WFH H nr n ne) (lv : LVo H n) (fD : FOk faD D) (fW : FOk faW W) (hcd : cd ≤ c.1) (z14 : aW cs sz 14 c = true) : Cg c (aFa cs sz 15 1 120 (aFa cs sz 14 0 60 (aFu cs sz 3 ct c))) ∧ ((aFa cs sz 15 1 120 (aFa cs sz 14 0 60 (aFu cs sz 3 ct c))).2 = 0 → c.1 + 1 ≤ (aFa cs sz 15 1 120 (aFa cs sz 14 0 60 (aFu cs sz 3 ct c))).1 ∧ PHd (aFa cs sz 15 1 120 (aFa cs sz 14 0 60 (aFu cs sz 3 ct c))).1 (upd (upd H 3 (nI (aFv cs sz 14 (aFu cs sz 3 ct c)))) 4 (nI (aFv cs sz 15 (aFa cs sz 14 0 60 (aFu cs sz 3 ct c)))), (wd, kd, nm), (ri, ti, ei), (nr, n, ne), (D, W), cd, true, et)) := by
  have hR6 : nr ≤ 6 := wf.1.2.2.2.1
  have hN6 : n ≤ 6 := wf.1.2.2.2.2.1
  have hE6 : ne ≤ 6 := wf.1.2.2.2.2.2
  refine ⟨(Cg_fu hs (by decide) _ _).trans ((Cg_fa hs _ _ _ _).trans (Cg_fa hs _ _ _ _)), fun y => ?_⟩
  obtain ⟨y1, a2, b2⟩ := aFa_0 y
  obtain ⟨y0, a1, b1⟩ := aFa_0 y1
  have e0 := (aFu_0 (by decide) y0).2.2
  have mv : c.1 + 1 ≤ (aFa cs sz 15 1 120 (aFa cs sz 14 0 60 (aFu cs sz 3 ct c))).1 := by
    have h1 := aAd_s h0
    have h2 : aNW cs sz 14 c = aAd c := by unfold aNW; rw [if_pos z14]
    have h3 := (Cg_nn (cs := cs) hs 0 60 (aNW cs sz 14 (aFu cs sz 3 ct c))).1
    have h4 := (Cg_fa (cs := cs) hs 15 1 120 (aFa cs sz 14 0 60 (aFu cs sz 3 ct c))).1
    rw [e0] at h3 h4 ⊢
    have h5 : (aFa cs sz 14 0 60 c).1 = (aNN cs sz 0 60 (aNW cs sz 14 c)).1 := rfl
    rw [h2] at h3 h5
    omega
  refine ⟨mv, pn, wf.cg (fun i hi => by simp (disch := omega) only [upd_ne]) ⟨⟨_, b1, by simp (disch := omega) only [upd_ne, upd_eq]⟩, ⟨_, a2, b2, by simp (disch := omega) only [upd_eq]⟩, ?_⟩ (fun i h1 h2 => by simp (disch := omega) only [upd_ne]) (fun i h1 h2 => by simp (disch := omega) only [upd_ne]), lv.cg (Nat.le_refl _) (fun i h1 h2 => by simp (disch := omega) only [upd_ne]), fD, fW, by omega⟩
  simp (disch := omega) only [upd_ne]
  exact wf.2.1.2.2
theorem ok_16 {H : Nat → Int32} {wd : Nat → List Nat} {kd ri ti ei : Nat → Nat} {nm nr n ne cd : Nat} {D W : Fml} {ct et : Bool} (hs : sz ≤ 1000) {c : Cu} (h0 : c.2 = 0) (ht : ¬ tK cs sz (sP cs sz c.1) = 0) (pn : PNm wd kd nm ri ti ei nr n ne) (wf : WFH H nr n ne) (lv : LVo H n) (fD : FOk faD D) (fW : FOk faW W) (hcd : cd ≤ c.1) (z16 : aW cs sz 16 c = true) : Cg c (aFa cs sz 16 1 30 (aFu cs sz 3 et c)) ∧ ((aFa cs sz 16 1 30 (aFu cs sz 3 et c)).2 = 0 → c.1 + 1 ≤ (aFa cs sz 16 1 30 (aFu cs sz 3 et c)).1 ∧ PHd (aFa cs sz 16 1 30 (aFu cs sz 3 et c)).1 (upd H 5 (nI (aFv cs sz 16 (aFu cs sz 3 et c))), (wd, kd, nm), (ri, ti, ei), (nr, n, ne), (D, W), cd, ct, true)) := by
  have hR6 : nr ≤ 6 := wf.1.2.2.2.1
  have hN6 : n ≤ 6 := wf.1.2.2.2.2.1
  have hE6 : ne ≤ 6 := wf.1.2.2.2.2.2
  refine ⟨(Cg_fu hs (by decide) _ _).trans (Cg_fa hs _ _ _ _), fun y => ?_⟩
  obtain ⟨y0, a1, b1⟩ := aFa_0 y
  have e0 := (aFu_0 (by decide) y0).2.2
  have mv : c.1 + 1 ≤ (aFa cs sz 16 1 30 (aFu cs sz 3 et c)).1 := by
    have h1 := aAd_s h0
    have h2 : aNW cs sz 16 c = aAd c := by unfold aNW; rw [if_pos z16]
    have h3 := (Cg_nn (cs := cs) hs 1 30 (aNW cs sz 16 (aFu cs sz 3 et c))).1
    rw [e0] at h3 ⊢
    have h5 : (aFa cs sz 16 1 30 c).1 = (aNN cs sz 1 30 (aNW cs sz 16 c)).1 := rfl
    rw [h2] at h3 h5
    omega
  refine ⟨mv, pn, wf.cg (fun i hi => by simp (disch := omega) only [upd_ne]) ⟨?_, ?_, ⟨_, a1, b1, by simp (disch := omega) only [upd_eq]⟩⟩ (fun i h1 h2 => by simp (disch := omega) only [upd_ne]) (fun i h1 h2 => by simp (disch := omega) only [upd_ne]), lv.cg (Nat.le_refl _) (fun i h1 h2 => by simp (disch := omega) only [upd_ne]), fD, fW, by omega⟩
  · simp (disch := omega) only [upd_ne]
    exact wf.2.1.1
  · simp (disch := omega) only [upd_ne]
    exact wf.2.1.2.1
theorem ok_17 {H : Nat → Int32} {wd : Nat → List Nat} {kd ri ti ei : Nat → Nat} {nm nr n ne cd : Nat} {D W : Fml} {ct et : Bool} (hs : sz ≤ 1000) {c : Cu} (h0 : c.2 = 0) (ht : ¬ tK cs sz (sP cs sz c.1) = 0) (pn : PNm wd kd nm ri ti ei nr n ne) (wf : WFH H nr n ne) (lv : LVo H n) (fD : FOk faD D) (fW : FOk faW W) (hcd : cd ≤ c.1) (z17 : aW cs sz 17 c = true) : Cg c (aAll cs sz (aPt cs sz fbD 5) (aAd (aFu cs sz 3 D.isSome c), (fun _ => (0, 0)), 0)).1 ∧ ((aAll cs sz (aPt cs sz fbD 5) (aAd (aFu cs sz 3 D.isSome c), (fun _ => (0, 0)), 0)).1.2 = 0 → c.1 + 1 ≤ (aAll cs sz (aPt cs sz fbD 5) (aAd (aFu cs sz 3 D.isSome c), (fun _ => (0, 0)), 0)).1.1 ∧ PHd (aAll cs sz (aPt cs sz fbD 5) (aAd (aFu cs sz 3 D.isSome c), (fun _ => (0, 0)), 0)).1.1 (upd H 6 (nI cd), (wd, kd, nm), (ri, ti, ei), (nr, n, ne), (some ((aAll cs sz (aPt cs sz fbD 5) (aAd (aFu cs sz 3 D.isSome c), (fun _ => (0, 0)), 0)).2.1, (aAll cs sz (aPt cs sz fbD 5) (aAd (aFu cs sz 3 D.isSome c), (fun _ => (0, 0)), 0)).2.2), W), cd + (aAll cs sz (aPt cs sz fbD 5) (aAd (aFu cs sz 3 D.isSome c), (fun _ => (0, 0)), 0)).2.2 + 1, ct, et)) := by
  have hR6 : nr ≤ 6 := wf.1.2.2.2.1
  have hN6 : n ≤ 6 := wf.1.2.2.2.2.1
  have hE6 : ne ≤ 6 := wf.1.2.2.2.2.2
  have hg : Gr (aAd (aFu cs sz 3 D.isSome c), (fun _ => (0, 0)), 0) (aAll cs sz (aPt cs sz fbD 5) (aAd (aFu cs sz 3 D.isSome c), (fun _ => (0, 0)), 0)) := Gr_all hs (Gr_pt hs fbD 5) _
  have cg0 : Cg c (aAd (aFu cs sz 3 D.isSome c)) := (Cg_fu hs (by decide) _ _).trans (Cg_ad (cs := cs) hs (fun h => by rw [(aFu_0 (by decide) h).2.2]; exact ht))
  refine ⟨cg0.trans ⟨hg.1, hg.2.2.2.2.1, fun z => congrArg Prod.fst (hg.2.2.2.2.2.1 z), hg.2.2.2.2.2.2⟩, fun y => ?_⟩
  have y1 : (aAd (aFu cs sz 3 D.isSome c)).2 = 0 := hg.f0 y
  rw [aAd_0] at y1
  obtain ⟨e1, e2, e3⟩ := aFu_0 (by decide) y1
  have h1 := aAd_s h0
  have h3 : (aAll cs sz (aPt cs sz fbD 5) (aAd (aFu cs sz 3 D.isSome c), (fun _ => (0, 0)), 0)).2.2 + (aAd (aFu cs sz 3 D.isSome c)).1 ≤ 0 + (aAll cs sz (aPt cs sz fbD 5) (aAd (aFu cs sz 3 D.isSome c), (fun _ => (0, 0)), 0)).1.1 := hg.2.2.1
  have h4 : (aAd (aFu cs sz 3 D.isSome c)).1 = c.1 + 1 := by rw [e3]; exact h1
  refine ⟨by omega, pn, wf.cg (fun i hi => by simp (disch := omega) only [upd_ne]) ?_ (fun i h1 h2 => by simp (disch := omega) only [upd_ne]) (fun i h1 h2 => by simp (disch := omega) only [upd_ne]), lv.cg (Nat.le_refl _) (fun i h1 h2 => by simp (disch := omega) only [upd_ne]), (fun q hq => by cases hq; exact WFC_all hs fbD_ok rfl y), fW, by omega⟩
  simp (disch := omega) only [upd_ne]
  exact wf.2.1
theorem ok_18 {H : Nat → Int32} {wd : Nat → List Nat} {kd ri ti ei : Nat → Nat} {nm nr n ne cd : Nat} {D W : Fml} {ct et : Bool} (hs : sz ≤ 1000) {c : Cu} (h0 : c.2 = 0) (ht : ¬ tK cs sz (sP cs sz c.1) = 0) (pn : PNm wd kd nm ri ti ei nr n ne) (wf : WFH H nr n ne) (lv : LVo H n) (fD : FOk faD D) (fW : FOk faW W) (hcd : cd ≤ c.1) (z18 : aW cs sz 18 c = true) : Cg c (aAll cs sz (aPt cs sz fbW 5) (aAd (aFu cs sz 3 W.isSome c), (fun _ => (0, 0)), 0)).1 ∧ ((aAll cs sz (aPt cs sz fbW 5) (aAd (aFu cs sz 3 W.isSome c), (fun _ => (0, 0)), 0)).1.2 = 0 → c.1 + 1 ≤ (aAll cs sz (aPt cs sz fbW 5) (aAd (aFu cs sz 3 W.isSome c), (fun _ => (0, 0)), 0)).1.1 ∧ PHd (aAll cs sz (aPt cs sz fbW 5) (aAd (aFu cs sz 3 W.isSome c), (fun _ => (0, 0)), 0)).1.1 (upd H 7 (nI cd), (wd, kd, nm), (ri, ti, ei), (nr, n, ne), (D, some ((aAll cs sz (aPt cs sz fbW 5) (aAd (aFu cs sz 3 W.isSome c), (fun _ => (0, 0)), 0)).2.1, (aAll cs sz (aPt cs sz fbW 5) (aAd (aFu cs sz 3 W.isSome c), (fun _ => (0, 0)), 0)).2.2)), cd + (aAll cs sz (aPt cs sz fbW 5) (aAd (aFu cs sz 3 W.isSome c), (fun _ => (0, 0)), 0)).2.2 + 1, ct, et)) := by
  have hR6 : nr ≤ 6 := wf.1.2.2.2.1
  have hN6 : n ≤ 6 := wf.1.2.2.2.2.1
  have hE6 : ne ≤ 6 := wf.1.2.2.2.2.2
  have hg : Gr (aAd (aFu cs sz 3 W.isSome c), (fun _ => (0, 0)), 0) (aAll cs sz (aPt cs sz fbW 5) (aAd (aFu cs sz 3 W.isSome c), (fun _ => (0, 0)), 0)) := Gr_all hs (Gr_pt hs fbW 5) _
  have cg0 : Cg c (aAd (aFu cs sz 3 W.isSome c)) := (Cg_fu hs (by decide) _ _).trans (Cg_ad (cs := cs) hs (fun h => by rw [(aFu_0 (by decide) h).2.2]; exact ht))
  refine ⟨cg0.trans ⟨hg.1, hg.2.2.2.2.1, fun z => congrArg Prod.fst (hg.2.2.2.2.2.1 z), hg.2.2.2.2.2.2⟩, fun y => ?_⟩
  have y1 : (aAd (aFu cs sz 3 W.isSome c)).2 = 0 := hg.f0 y
  rw [aAd_0] at y1
  obtain ⟨e1, e2, e3⟩ := aFu_0 (by decide) y1
  have h1 := aAd_s h0
  have h3 : (aAll cs sz (aPt cs sz fbW 5) (aAd (aFu cs sz 3 W.isSome c), (fun _ => (0, 0)), 0)).2.2 + (aAd (aFu cs sz 3 W.isSome c)).1 ≤ 0 + (aAll cs sz (aPt cs sz fbW 5) (aAd (aFu cs sz 3 W.isSome c), (fun _ => (0, 0)), 0)).1.1 := hg.2.2.1
  have h4 : (aAd (aFu cs sz 3 W.isSome c)).1 = c.1 + 1 := by rw [e3]; exact h1
  refine ⟨by omega, pn, wf.cg (fun i hi => by simp (disch := omega) only [upd_ne]) ?_ (fun i h1 h2 => by simp (disch := omega) only [upd_ne]) (fun i h1 h2 => by simp (disch := omega) only [upd_ne]), lv.cg (Nat.le_refl _) (fun i h1 h2 => by simp (disch := omega) only [upd_ne]), fD, (fun q hq => by cases hq; exact WFC_all hs fbW_ok rfl y), by omega⟩
  simp (disch := omega) only [upd_ne]
  exact wf.2.1
theorem hLn_0 {c : Cu} {H : Nat → Int32} {wd : Nat → List Nat} {kd ri ti ei : Nat → Nat} {nm nr n ne cd : Nat} {D W : Fml} {ct et : Bool} (z : aW cs sz 0 c = true) : hLn cs sz c (H, (wd, kd, nm), (ri, ti, ei), (nr, n, ne), (D, W), cd, ct, et) = ((aFa cs sz 3 0 999 (aFa cs sz 2 0 20 (aFa cs sz 1 0 60 (aNm cs sz (decide (nr = 6)) (fdA wd nm) c)))), (rmH H nr (nI (aFv cs sz 1 (aNm cs sz (decide (nr = 6)) (fdA wd nm) c))) (nI (aFv cs sz 2 (aFa cs sz 1 0 60 (aNm cs sz (decide (nr = 6)) (fdA wd nm) c)))) (nI (aFv cs sz 3 (aFa cs sz 2 0 20 (aFa cs sz 1 0 60 (aNm cs sz (decide (nr = 6)) (fdA wd nm) c))))), (upW wd nm (aTw cs sz (aAd c)), upN kd nm nr, nm + 1), (upN ri nr nm, ti, ei), (nr + 1, n, ne), (D, W), cd, ct, et)) := by
  unfold hLn
  dsimp only
  rw [if_pos z]
theorem hLn_4 {c : Cu} {H : Nat → Int32} {wd : Nat → List Nat} {kd ri ti ei : Nat → Nat} {nm nr n ne cd : Nat} {D W : Fml} {ct et : Bool} (z0 : ¬ aW cs sz 0 c = true) (z : aW cs sz 4 c = true) : hLn cs sz c (H, (wd, kd, nm), (ri, ti, ei), (nr, n, ne), (D, W), cd, ct, et) = ((aHm cs sz (lkA 0 wd kd nm) (fun v => occ H v n) (aFa cs sz 7 0 9999 (aFa cs sz 6 0 40 (aFa cs sz 5 40 99 (aKd cs sz (aNm cs sz (decide (n = 6)) (fdA wd nm) c)))))), (tnH H n (nI (aKv cs sz (aNm cs sz (decide (n = 6)) (fdA wd nm) c))) (nI (aFv cs sz 5 (aKd cs sz (aNm cs sz (decide (n = 6)) (fdA wd nm) c)))) (nI (aFv cs sz 6 (aFa cs sz 5 40 99 (aKd cs sz (aNm cs sz (decide (n = 6)) (fdA wd nm) c))))) (nI (aFv cs sz 7 (aFa cs sz 6 0 40 (aFa cs sz 5 40 99 (aKd cs sz (aNm cs sz (decide (n = 6)) (fdA wd nm) c)))))) (aHo cs sz (lkA 0 wd kd nm) (aFa cs sz 7 0 9999 (aFa cs sz 6 0 40 (aFa cs sz 5 40 99 (aKd cs sz (aNm cs sz (decide (n = 6)) (fdA wd nm) c)))))), (upW wd nm (aTw cs sz (aAd c)), upN kd nm (20 + n), nm + 1), (ri, upN ti n nm, ei), (nr, n + 1, ne), (D, W), cd, ct, et)) := by
  unfold hLn
  dsimp only
  rw [if_neg z0, if_pos z]
theorem hLn_9 {c : Cu} {H : Nat → Int32} {wd : Nat → List Nat} {kd ri ti ei : Nat → Nat} {nm nr n ne cd : Nat} {D W : Fml} {ct et : Bool} (z0 : ¬ aW cs sz 0 c = true) (z4 : ¬ aW cs sz 4 c = true) (z : aW cs sz 9 c = true) : hLn cs sz c (H, (wd, kd, nm), (ri, ti, ei), (nr, n, ne), (D, W), cd, ct, et) = ((aLv cs sz (lkA 20 wd kd nm) H c), (lvH H ((lvO1 cs sz (lkA 20 wd kd nm) c).getD 0) ((lvO2 cs sz (lkA 20 wd kd nm) c).getD 0), (wd, kd, nm), (ri, ti, ei), (nr, n, ne), (D, W), cd, ct, et)) := by
  unfold hLn
  dsimp only
  rw [if_neg z0, if_neg z4, if_pos z]
theorem hLn_10 {c : Cu} {H : Nat → Int32} {wd : Nat → List Nat} {kd ri ti ei : Nat → Nat} {nm nr n ne cd : Nat} {D W : Fml} {ct et : Bool} (z0 : ¬ aW cs sz 0 c = true) (z4 : ¬ aW cs sz 4 c = true) (z9 : ¬ aW cs sz 9 c = true) (z : aW cs sz 10 c = true) : hLn cs sz c (H, (wd, kd, nm), (ri, ti, ei), (nr, n, ne), (D, W), cd, ct, et) = ((aFa cs sz 13 0 60 (aFa cs sz 12 1 20 (aFa cs sz 11 0 99 (aNm cs sz (decide (ne = 6)) (fdA wd nm) c)))), (eaH H ne (nI (aFv cs sz 11 (aNm cs sz (decide (ne = 6)) (fdA wd nm) c))) (nI (aFv cs sz 12 (aFa cs sz 11 0 99 (aNm cs sz (decide (ne = 6)) (fdA wd nm) c)))) (nI (aFv cs sz 13 (aFa cs sz 12 1 20 (aFa cs sz 11 0 99 (aNm cs sz (decide (ne = 6)) (fdA wd nm) c))))), (upW wd nm (aTw cs sz (aAd c)), upN kd nm 40, nm + 1), (ri, ti, upN ei ne nm), (nr, n, ne + 1), (D, W), cd, ct, et)) := by
  unfold hLn
  dsimp only
  rw [if_neg z0, if_neg z4, if_neg z9, if_pos z]
theorem hLn_14 {c : Cu} {H : Nat → Int32} {wd : Nat → List Nat} {kd ri ti ei : Nat → Nat} {nm nr n ne cd : Nat} {D W : Fml} {ct et : Bool} (z0 : ¬ aW cs sz 0 c = true) (z4 : ¬ aW cs sz 4 c = true) (z9 : ¬ aW cs sz 9 c = true) (z10 : ¬ aW cs sz 10 c = true) (z : aW cs sz 14 c = true) : hLn cs sz c (H, (wd, kd, nm), (ri, ti, ei), (nr, n, ne), (D, W), cd, ct, et) = ((aFa cs sz 15 1 120 (aFa cs sz 14 0 60 (aFu cs sz 3 ct c))), (upd (upd H 3 (nI (aFv cs sz 14 (aFu cs sz 3 ct c)))) 4 (nI (aFv cs sz 15 (aFa cs sz 14 0 60 (aFu cs sz 3 ct c)))), (wd, kd, nm), (ri, ti, ei), (nr, n, ne), (D, W), cd, true, et)) := by
  unfold hLn
  dsimp only
  rw [if_neg z0, if_neg z4, if_neg z9, if_neg z10, if_pos z]
theorem hLn_16 {c : Cu} {H : Nat → Int32} {wd : Nat → List Nat} {kd ri ti ei : Nat → Nat} {nm nr n ne cd : Nat} {D W : Fml} {ct et : Bool} (z0 : ¬ aW cs sz 0 c = true) (z4 : ¬ aW cs sz 4 c = true) (z9 : ¬ aW cs sz 9 c = true) (z10 : ¬ aW cs sz 10 c = true) (z14 : ¬ aW cs sz 14 c = true) (z : aW cs sz 16 c = true) : hLn cs sz c (H, (wd, kd, nm), (ri, ti, ei), (nr, n, ne), (D, W), cd, ct, et) = ((aFa cs sz 16 1 30 (aFu cs sz 3 et c)), (upd H 5 (nI (aFv cs sz 16 (aFu cs sz 3 et c))), (wd, kd, nm), (ri, ti, ei), (nr, n, ne), (D, W), cd, ct, true)) := by
  unfold hLn
  dsimp only
  rw [if_neg z0, if_neg z4, if_neg z9, if_neg z10, if_neg z14, if_pos z]
theorem hLn_17 {c : Cu} {H : Nat → Int32} {wd : Nat → List Nat} {kd ri ti ei : Nat → Nat} {nm nr n ne cd : Nat} {D W : Fml} {ct et : Bool} (z0 : ¬ aW cs sz 0 c = true) (z4 : ¬ aW cs sz 4 c = true) (z9 : ¬ aW cs sz 9 c = true) (z10 : ¬ aW cs sz 10 c = true) (z14 : ¬ aW cs sz 14 c = true) (z16 : ¬ aW cs sz 16 c = true) (z : aW cs sz 17 c = true) : hLn cs sz c (H, (wd, kd, nm), (ri, ti, ei), (nr, n, ne), (D, W), cd, ct, et) = ((aAll cs sz (aPt cs sz fbD 5) (aAd (aFu cs sz 3 D.isSome c), (fun _ => (0, 0)), 0)).1, (upd H 6 (nI cd), (wd, kd, nm), (ri, ti, ei), (nr, n, ne), (some ((aAll cs sz (aPt cs sz fbD 5) (aAd (aFu cs sz 3 D.isSome c), (fun _ => (0, 0)), 0)).2.1, (aAll cs sz (aPt cs sz fbD 5) (aAd (aFu cs sz 3 D.isSome c), (fun _ => (0, 0)), 0)).2.2), W), cd + (aAll cs sz (aPt cs sz fbD 5) (aAd (aFu cs sz 3 D.isSome c), (fun _ => (0, 0)), 0)).2.2 + 1, ct, et)) := by
  unfold hLn
  dsimp only
  rw [if_neg z0, if_neg z4, if_neg z9, if_neg z10, if_neg z14, if_neg z16, if_pos z]
theorem hLn_18 {c : Cu} {H : Nat → Int32} {wd : Nat → List Nat} {kd ri ti ei : Nat → Nat} {nm nr n ne cd : Nat} {D W : Fml} {ct et : Bool} (z0 : ¬ aW cs sz 0 c = true) (z4 : ¬ aW cs sz 4 c = true) (z9 : ¬ aW cs sz 9 c = true) (z10 : ¬ aW cs sz 10 c = true) (z14 : ¬ aW cs sz 14 c = true) (z16 : ¬ aW cs sz 16 c = true) (z17 : ¬ aW cs sz 17 c = true) (z : aW cs sz 18 c = true) : hLn cs sz c (H, (wd, kd, nm), (ri, ti, ei), (nr, n, ne), (D, W), cd, ct, et) = ((aAll cs sz (aPt cs sz fbW 5) (aAd (aFu cs sz 3 W.isSome c), (fun _ => (0, 0)), 0)).1, (upd H 7 (nI cd), (wd, kd, nm), (ri, ti, ei), (nr, n, ne), (D, some ((aAll cs sz (aPt cs sz fbW 5) (aAd (aFu cs sz 3 W.isSome c), (fun _ => (0, 0)), 0)).2.1, (aAll cs sz (aPt cs sz fbW 5) (aAd (aFu cs sz 3 W.isSome c), (fun _ => (0, 0)), 0)).2.2)), cd + (aAll cs sz (aPt cs sz fbW 5) (aAd (aFu cs sz 3 W.isSome c), (fun _ => (0, 0)), 0)).2.2 + 1, ct, et)) := by
  unfold hLn
  dsimp only
  rw [if_neg z0, if_neg z4, if_neg z9, if_neg z10, if_neg z14, if_neg z16, if_neg z17, if_pos z]
theorem hLn_no {c : Cu} {H : Nat → Int32} {wd : Nat → List Nat} {kd ri ti ei : Nat → Nat} {nm nr n ne cd : Nat} {D W : Fml} {ct et : Bool} (z0 : ¬ aW cs sz 0 c = true) (z4 : ¬ aW cs sz 4 c = true) (z9 : ¬ aW cs sz 9 c = true) (z10 : ¬ aW cs sz 10 c = true) (z14 : ¬ aW cs sz 14 c = true) (z16 : ¬ aW cs sz 16 c = true) (z17 : ¬ aW cs sz 17 c = true) (z18 : ¬ aW cs sz 18 c = true) : hLn cs sz c (H, (wd, kd, nm), (ri, ti, ei), (nr, n, ne), (D, W), cd, ct, et) = (aFl cs sz 1 c, (H, (wd, kd, nm), (ri, ti, ei), (nr, n, ne), (D, W), cd, ct, et)) := by
  unfold hLn
  dsimp only
  rw [if_neg z0, if_neg z4, if_neg z9, if_neg z10, if_neg z14, if_neg z16, if_neg z17, if_neg z18]
theorem hLn_ok (hs : sz ≤ 1000) {c : Cu} {x : Hd} (h0 : c.2 = 0) (ht : ¬ tK cs sz (sP cs sz c.1) = 0) (p : PHd c.1 x) : Cg c (hLn cs sz c x).1 ∧ ((hLn cs sz c x).1.2 = 0 → c.1 + 1 ≤ (hLn cs sz c x).1.1 ∧ PHd (hLn cs sz c x).1.1 (hLn cs sz c x).2) := by
  obtain ⟨H, ⟨wd, kd, nm⟩, ⟨ri, ti, ei⟩, ⟨nr, n, ne⟩, ⟨D, W⟩, cd, ct, et⟩ := x
  obtain ⟨pn, wf, lv, fD, fW, hcd⟩ := p
  by_cases z0 : aW cs sz 0 c = true
  · rw [hLn_0  z0]
    dsimp only
    exact ok_0 (ct := ct) (et := et) (cd := cd) hs h0 ht pn wf lv fD fW hcd z0
  by_cases z4 : aW cs sz 4 c = true
  · rw [hLn_4 z0 z4]
    dsimp only
    exact ok_4 (ct := ct) (et := et) (cd := cd) hs h0 ht pn wf lv fD fW hcd z4
  by_cases z9 : aW cs sz 9 c = true
  · rw [hLn_9 z0 z4 z9]
    dsimp only
    exact ok_9 (ct := ct) (et := et) (cd := cd) hs h0 ht pn wf lv fD fW hcd z9
  by_cases z10 : aW cs sz 10 c = true
  · rw [hLn_10 z0 z4 z9 z10]
    dsimp only
    exact ok_10 (ct := ct) (et := et) (cd := cd) hs h0 ht pn wf lv fD fW hcd z10
  by_cases z14 : aW cs sz 14 c = true
  · rw [hLn_14 z0 z4 z9 z10 z14]
    dsimp only
    exact ok_14 (ct := ct) (et := et) (cd := cd) hs h0 ht pn wf lv fD fW hcd z14
  by_cases z16 : aW cs sz 16 c = true
  · rw [hLn_16 z0 z4 z9 z10 z14 z16]
    dsimp only
    exact ok_16 (ct := ct) (et := et) (cd := cd) hs h0 ht pn wf lv fD fW hcd z16
  by_cases z17 : aW cs sz 17 c = true
  · rw [hLn_17 z0 z4 z9 z10 z14 z16 z17]
    dsimp only
    exact ok_17 (ct := ct) (et := et) (cd := cd) hs h0 ht pn wf lv fD fW hcd z17
  by_cases z18 : aW cs sz 18 c = true
  · rw [hLn_18 z0 z4 z9 z10 z14 z16 z17 z18]
    dsimp only
    exact ok_18 (ct := ct) (et := et) (cd := cd) hs h0 ht pn wf lv fD fW hcd z18
  rw [hLn_no z0 z4 z9 z10 z14 z16 z17 z18]
  dsimp only
  exact ⟨Cg_fl hs (by decide) c, fun y => absurd y (aFl_ne (by decide))⟩
end HLN
