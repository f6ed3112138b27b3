/-! The law's code, checked in pieces. -/
theorem lw_chunk {α : Type} {q : α → Bool} (sz : Nat) : ∀ (n : Nat) (xs : List α), xs.length ≤ sz * n → (∀ i, i < n → ((xs.drop (sz * i)).take sz).all q = true) → xs.all q = true
  | 0, xs, h, _ => by
    have : xs = [] := List.length_eq_zero_iff.mp (by omega)
    rw [this]; rfl
  | n + 1, xs, h, k => by
    have a := k 0 (by omega)
    rw [Nat.mul_zero, List.drop_zero] at a
    have b := lw_chunk sz n (xs.drop sz) (by rw [List.length_drop, Nat.mul_succ] at *; omega) (fun i hi => by
      have := k (i + 1) (by omega)
      rw [Nat.mul_succ, Nat.add_comm, ← List.drop_drop] at this
      exact this)
    rw [← List.take_append_drop sz xs, List.all_append, a, b]
    rfl
set_option maxRecDepth 100000 in
theorem lw_k0 : ((qL_law.drop 0).take 25).all (dm_okI RL cL_law false) = true := by decide +kernel
set_option maxRecDepth 100000 in
theorem lw_k1 : ((qL_law.drop 25).take 25).all (dm_okI RL cL_law false) = true := by decide +kernel
set_option maxRecDepth 100000 in
theorem lw_k2 : ((qL_law.drop 50).take 25).all (dm_okI RL cL_law false) = true := by decide +kernel
set_option maxRecDepth 100000 in
theorem lw_k3 : ((qL_law.drop 75).take 25).all (dm_okI RL cL_law false) = true := by decide +kernel
set_option maxRecDepth 100000 in
theorem lw_k4 : ((qL_law.drop 100).take 25).all (dm_okI RL cL_law false) = true := by decide +kernel
set_option maxRecDepth 100000 in
theorem lw_k5 : ((qL_law.drop 125).take 25).all (dm_okI RL cL_law false) = true := by decide +kernel
set_option maxRecDepth 100000 in
theorem lw_k6 : ((qL_law.drop 150).take 25).all (dm_okI RL cL_law false) = true := by decide +kernel
set_option maxRecDepth 100000 in
theorem lw_k7 : ((qL_law.drop 175).take 25).all (dm_okI RL cL_law false) = true := by decide +kernel
set_option maxRecDepth 100000 in
theorem lw_k8 : ((qL_law.drop 200).take 25).all (dm_okI RL cL_law false) = true := by decide +kernel
set_option maxRecDepth 100000 in
theorem lw_k9 : ((qL_law.drop 225).take 25).all (dm_okI RL cL_law false) = true := by decide +kernel
set_option maxRecDepth 100000 in
theorem lw_k10 : ((qL_law.drop 250).take 25).all (dm_okI RL cL_law false) = true := by decide +kernel
set_option maxRecDepth 100000 in
theorem lw_k11 : ((qL_law.drop 275).take 25).all (dm_okI RL cL_law false) = true := by decide +kernel
set_option maxRecDepth 100000 in
theorem lw_k12 : ((qL_law.drop 300).take 25).all (dm_okI RL cL_law false) = true := by decide +kernel
set_option maxRecDepth 100000 in
theorem lw_k13 : ((qL_law.drop 325).take 25).all (dm_okI RL cL_law false) = true := by decide +kernel
set_option maxRecDepth 100000 in
theorem lw_k14 : ((qL_law.drop 350).take 25).all (dm_okI RL cL_law false) = true := by decide +kernel
set_option maxRecDepth 100000 in
theorem lw_k15 : ((qL_law.drop 375).take 25).all (dm_okI RL cL_law false) = true := by decide +kernel
set_option maxRecDepth 100000 in
theorem lw_k16 : ((qL_law.drop 400).take 25).all (dm_okI RL cL_law false) = true := by decide +kernel
set_option maxRecDepth 100000 in
theorem lw_k17 : ((qL_law.drop 425).take 25).all (dm_okI RL cL_law false) = true := by decide +kernel
set_option maxRecDepth 100000 in
theorem lw_k18 : ((qL_law.drop 450).take 25).all (dm_okI RL cL_law false) = true := by decide +kernel
set_option maxRecDepth 100000 in
theorem lw_k19 : ((qL_law.drop 475).take 25).all (dm_okI RL cL_law false) = true := by decide +kernel
set_option maxRecDepth 100000 in
theorem lw_k20 : ((qL_law.drop 500).take 25).all (dm_okI RL cL_law false) = true := by decide +kernel
set_option maxRecDepth 100000 in
theorem lw_k21 : ((qL_law.drop 525).take 25).all (dm_okI RL cL_law false) = true := by decide +kernel
set_option maxRecDepth 100000 in
theorem lw_k22 : ((qL_law.drop 550).take 25).all (dm_okI RL cL_law false) = true := by decide +kernel
set_option maxRecDepth 100000 in
theorem lw_k23 : ((qL_law.drop 575).take 25).all (dm_okI RL cL_law false) = true := by decide +kernel
set_option maxRecDepth 100000 in
theorem lw_k24 : ((qL_law.drop 600).take 25).all (dm_okI RL cL_law false) = true := by decide +kernel
set_option maxRecDepth 100000 in
theorem lw_k25 : ((qL_law.drop 625).take 25).all (dm_okI RL cL_law false) = true := by decide +kernel
set_option maxRecDepth 100000 in
theorem lw_k26 : ((qL_law.drop 650).take 25).all (dm_okI RL cL_law false) = true := by decide +kernel
set_option maxRecDepth 100000 in
theorem lw_k27 : ((qL_law.drop 675).take 25).all (dm_okI RL cL_law false) = true := by decide +kernel
set_option maxRecDepth 100000 in
theorem lw_k28 : ((qL_law.drop 700).take 25).all (dm_okI RL cL_law false) = true := by decide +kernel
set_option maxRecDepth 100000 in
theorem lw_k29 : ((qL_law.drop 725).take 25).all (dm_okI RL cL_law false) = true := by decide +kernel
set_option maxRecDepth 100000 in
theorem lw_k30 : ((qL_law.drop 750).take 25).all (dm_okI RL cL_law false) = true := by decide +kernel
set_option maxRecDepth 100000 in
theorem lw_k31 : ((qL_law.drop 775).take 25).all (dm_okI RL cL_law false) = true := by decide +kernel
set_option maxRecDepth 100000 in
theorem lw_k32 : ((qL_law.drop 800).take 25).all (dm_okI RL cL_law false) = true := by decide +kernel
set_option maxRecDepth 100000 in
theorem lw_k33 : ((qL_law.drop 825).take 25).all (dm_okI RL cL_law false) = true := by decide +kernel
set_option maxRecDepth 100000 in
theorem lw_k34 : ((qL_law.drop 850).take 25).all (dm_okI RL cL_law false) = true := by decide +kernel
set_option maxRecDepth 100000 in
theorem lw_k35 : ((qL_law.drop 875).take 25).all (dm_okI RL cL_law false) = true := by decide +kernel
set_option maxRecDepth 100000 in
theorem lw_k36 : ((qL_law.drop 900).take 25).all (dm_okI RL cL_law false) = true := by decide +kernel
set_option maxRecDepth 100000 in
theorem lw_k37 : ((qL_law.drop 925).take 25).all (dm_okI RL cL_law false) = true := by decide +kernel
set_option maxRecDepth 100000 in
theorem lw_k38 : ((qL_law.drop 950).take 25).all (dm_okI RL cL_law false) = true := by decide +kernel
set_option maxRecDepth 100000 in
theorem lw_k39 : ((qL_law.drop 975).take 25).all (dm_okI RL cL_law false) = true := by decide +kernel
set_option maxRecDepth 100000 in
theorem lw_len : qL_law.length ≤ 1000 := by decide +kernel
theorem lw_okI : ∀ o ∈ qL_law, dm_okI RL cL_law false o = true := List.all_eq_true.mp (lw_chunk 25 40 qL_law lw_len (fun i hi => by
  match i, hi with
  | 0, _ => exact lw_k0
  | 1, _ => exact lw_k1
  | 2, _ => exact lw_k2
  | 3, _ => exact lw_k3
  | 4, _ => exact lw_k4
  | 5, _ => exact lw_k5
  | 6, _ => exact lw_k6
  | 7, _ => exact lw_k7
  | 8, _ => exact lw_k8
  | 9, _ => exact lw_k9
  | 10, _ => exact lw_k10
  | 11, _ => exact lw_k11
  | 12, _ => exact lw_k12
  | 13, _ => exact lw_k13
  | 14, _ => exact lw_k14
  | 15, _ => exact lw_k15
  | 16, _ => exact lw_k16
  | 17, _ => exact lw_k17
  | 18, _ => exact lw_k18
  | 19, _ => exact lw_k19
  | 20, _ => exact lw_k20
  | 21, _ => exact lw_k21
  | 22, _ => exact lw_k22
  | 23, _ => exact lw_k23
  | 24, _ => exact lw_k24
  | 25, _ => exact lw_k25
  | 26, _ => exact lw_k26
  | 27, _ => exact lw_k27
  | 28, _ => exact lw_k28
  | 29, _ => exact lw_k29
  | 30, _ => exact lw_k30
  | 31, _ => exact lw_k31
  | 32, _ => exact lw_k32
  | 33, _ => exact lw_k33
  | 34, _ => exact lw_k34
  | 35, _ => exact lw_k35
  | 36, _ => exact lw_k36
  | 37, _ => exact lw_k37
  | 38, _ => exact lw_k38
  | 39, _ => exact lw_k39
  | i + 40, hi => exact absurd hi (by omega)))
