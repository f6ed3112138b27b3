/-! The store by its rows. -/
def Mk (g : Nat × Nat) (I : Nat → Nat → Int32) (L : Nat → Nat → Int64) (R : Nat → Nat → Value) : dm_St := (ly_SH, g, I, L, R)
def LR (R : Nat → Nat → Value) : Prop := ∀ e ∈ ly_R, R e.1 e.2.1 = .ref e.2.2
section MKS
variable {g : Nat × Nat} {I : Nat → Nat → Int32} {L : Nat → Nat → Int64} {R : Nat → Nat → Value}
theorem mkI : dm_I (Mk g I L R) = I := rfl
theorem mkL : dm_L (Mk g I L R) = L := rfl
theorem mkR : dm_R (Mk g I L R) = R := rfl
theorem mkS : dm_sh (Mk g I L R) = ly_SH := rfl
theorem mk_I (f : Nat → Nat → Int32) : dm_setI (Mk g I L R) f = Mk g f L R := rfl
theorem mk_L (f : Nat → Nat → Int64) : dm_setL (Mk g I L R) f = Mk g I f R := rfl
theorem mk_R (f : Nat → Nat → Value) : dm_setR (Mk g I L R) f = Mk g I L f := rfl
theorem LR.lay (h : LR R) : Lay (Mk g I L R) := ⟨rfl, h⟩
theorem LR.up (h : LR R) {q k : Nat} (hf : ly_free q k = true) (v : Value) : LR (dm_up R q k v) := (Lay.R (h.lay (g := (0, 0)) (I := fun _ _ => 0) (L := fun _ _ => 0)) hf v).2
/-- an int comes back, the rest as P says -/
def Ri (v : Int32) (g : Nat × Nat) (L : Nat → Nat → Int64) (R : Nat → Nat → Value) (P : (Nat → Nat → Int32) → Prop) : Option Value → dm_St → Prop := fun r σ' => r = some (.int v) ∧ ∃ I', σ' = Mk g I' L R ∧ P I'
def Rn (g : Nat × Nat) (L : Nat → Nat → Int64) (R : Nat → Nat → Value) (P : (Nat → Nat → Int32) → Prop) : Option Value → dm_St → Prop := fun r σ' => r = none ∧ ∃ I', σ' = Mk g I' L R ∧ P I'
end MKS
theorem xw_loop {S : dm_Sc} {d : Nat} {ret : Option FieldType} {code k : List dm_Op} {Q : Option Value → dm_St → Prop} (inv : Nat → List Value → dm_St → Prop) (n : Nat)
    (step : ∀ j vs σ, j < n → inv j vs σ → (∀ vs' σ', inv (j + 1) vs' σ' → xw S d ret code k (lvs vs') [] σ' Q) → xw S d ret code k (lvs vs) [] σ Q)
    (fin : ∀ vs σ, inv n vs σ → xw S d ret code k (lvs vs) [] σ Q) : ∀ (m j : Nat) (vs : List Value) (σ : dm_St), j + m = n → inv j vs σ → xw S d ret code k (lvs vs) [] σ Q
  | 0, j, vs, σ, hj, h => by
    obtain rfl : j = n := by omega
    exact fin vs σ h
  | m + 1, j, vs, σ, hj, h => step j vs σ (by omega) h (fun vs' σ' h' => xw_loop inv n step fin m (j + 1) vs' σ' (by omega) h')
/-- a loop that ends by what is so -/
theorem xw_while {S : dm_Sc} {d : Nat} {ret : Option FieldType} {code k : List dm_Op} {Q : Option Value → dm_St → Prop} (inv : Nat → List Value → dm_St → Prop)
    (step : ∀ j vs σ, inv j vs σ → (∀ i vs' σ', i < j → inv i vs' σ' → xw S d ret code k (lvs vs') [] σ' Q) → xw S d ret code k (lvs vs) [] σ Q) : ∀ (j : Nat) (vs : List Value) (σ : dm_St), inv j vs σ → xw S d ret code k (lvs vs) [] σ Q := fun j => by
  induction j using Nat.strongRecOn with
  | _ j ih => exact fun vs σ h => step j vs σ h (fun i vs' σ' hi h' => ih i hi vs' σ' h')
theorem xc_post {S : dm_Sc} {d mi : Nat} {as : List Value} {σ : dm_St} {Q Q' : Option Value → dm_St → Prop} (h : xc S d mi as σ Q') (hq : ∀ r σ', Q' r σ' → Q r σ') : xc S d mi as σ Q := xc_mono h hq
theorem dm_upp' {α : Type} {f : Nat → Nat → α} {p q i j : Nat} {v : α} (h : ¬ q = p) : dm_up f p i v q j = f q j := by simp only [dm_up, h, false_and, if_false]
theorem dm_rowe {α : Type} {f : Nat → Nat → α} {p : Nat} {v : Nat → α} : dm_row f p v p = v := by simp [dm_row]
theorem dm_rowp {α : Type} {f : Nat → Nat → α} {p q : Nat} {v : Nat → α} (h : ¬ q = p) : dm_row f p v q = f q := by simp [dm_row, h]
theorem dm_rcvR {σ : dm_St} {ci q : Nat} {t : List Value} : dm_rcv σ ci (.ref q :: t) = decide ((dm_sh σ)[q]? = some (.inl ci)) := rfl
theorem dm_rcvX {σ : dm_St} {ci j : Nat} {t : List Value} : dm_rcv σ ci (.retAddr j :: t) = decide (j = 300 ∧ ci = 99) := rfl
theorem ite_T {c : Prop} [Decidable c] {α : Type} {a b : α} (h : c) : (if c then a else b) = a := if_pos h
theorem ite_F {c : Prop} [Decidable c] {α : Type} {a b : α} (h : ¬ c) : (if c then a else b) = b := if_neg h
theorem xd3 : ((3 : Int32) = 0) = False := by decide
theorem xd5 : ((5 : Int32) = 0) = False := by decide
theorem xd6 : ((6 : Int32) = 0) = False := by decide
theorem St_of {R : Nat → Nat → Value} (h : LR R) {q : Nat} (hq : q ∈ ly_St) : ly_SH[q]? = some (.inl 7) ∧ R (q) 3 = .ref (q + 1) ∧ R (q) 4 = .ref (q + 2) ∧ R (q) 5 = .ref (q + 3) ∧ R (q) 6 = .ref (q + 4) ∧ R (q) 7 = .ref (q + 5) ∧ R (q) 8 = .ref (q + 6) ∧ ly_SH[q + 1]? = some (.inr (0, 6)) ∧ ly_SH[q + 2]? = some (.inr (0, 6)) ∧ ly_SH[q + 3]? = some (.inr (0, 6)) ∧ ly_SH[q + 4]? = some (.inr (0, 6)) ∧ ly_SH[q + 5]? = some (.inr (0, 6)) ∧ ly_SH[q + 6]? = some (.inr (0, 6)) := ly_St_of (h.lay (g := (0, 0)) (I := fun _ _ => 0) (L := fun _ _ => 0)) hq
theorem T3_of {R : Nat → Nat → Value} (h : LR R) {q : Nat} (hq : q ∈ ly_T3) : ly_SH[q]? = some (.inl 8) ∧ R (q) 0 = .ref (q + 1) ∧ R (q) 1 = .ref (q + 2) ∧ ly_SH[q + 1]? = some (.inr (1, 6)) ∧ ly_SH[q + 2]? = some (.inr (6, 3)) ∧ R (q + 2) 0 = .ref (q + 3) ∧ R (q + 2) 1 = .ref (q + 4) ∧ R (q + 2) 2 = .ref (q + 5) ∧ ly_SH[q + 3]? = some (.inr (0, 6)) ∧ ly_SH[q + 4]? = some (.inr (0, 6)) ∧ ly_SH[q + 5]? = some (.inr (0, 6)) := ly_T3_of (h.lay (g := (0, 0)) (I := fun _ _ => 0) (L := fun _ _ => 0)) hq
theorem T7_of {R : Nat → Nat → Value} (h : LR R) {q : Nat} (hq : q ∈ ly_T7) : ly_SH[q]? = some (.inl 8) ∧ R (q) 0 = .ref (q + 1) ∧ R (q) 1 = .ref (q + 2) ∧ ly_SH[q + 1]? = some (.inr (1, 6)) ∧ ly_SH[q + 2]? = some (.inr (6, 7)) ∧ R (q + 2) 0 = .ref (q + 3) ∧ R (q + 2) 1 = .ref (q + 4) ∧ R (q + 2) 2 = .ref (q + 5) ∧ R (q + 2) 3 = .ref (q + 6) ∧ R (q + 2) 4 = .ref (q + 7) ∧ R (q + 2) 5 = .ref (q + 8) ∧ R (q + 2) 6 = .ref (q + 9) ∧ ly_SH[q + 3]? = some (.inr (0, 6)) ∧ ly_SH[q + 4]? = some (.inr (0, 6)) ∧ ly_SH[q + 5]? = some (.inr (0, 6)) ∧ ly_SH[q + 6]? = some (.inr (0, 6)) ∧ ly_SH[q + 7]? = some (.inr (0, 6)) ∧ ly_SH[q + 8]? = some (.inr (0, 6)) ∧ ly_SH[q + 9]? = some (.inr (0, 6)) := ly_T7_of (h.lay (g := (0, 0)) (I := fun _ _ => 0) (L := fun _ _ => 0)) hq
theorem Ho_of {R : Nat → Nat → Value} (h : LR R) {q : Nat} (hq : q ∈ ly_Ho) : ly_SH[q]? = some (.inl 2) ∧ R (q) 0 = .ref (q + 1) ∧ R (q) 1 = .ref (q + 7) ∧ R (q) 2 = .ref (q + 17) ∧ R (q) 3 = .ref (q + 23) ∧ R (q) 4 = .ref (q + 27) := ly_Ho_of (h.lay (g := (0, 0)) (I := fun _ _ => 0) (L := fun _ _ => 0)) hq
theorem Fo_of {R : Nat → Nat → Value} (h : LR R) {q : Nat} (hq : q ∈ ly_Fo) : ly_SH[q]? = some (.inl 1) ∧ R (q) 1 = .ref (q + 1) ∧ R (q) 2 = .ref (q + 2) ∧ R (q) 3 = .ref (q + 3) ∧ ly_SH[q + 1]? = some (.inr (0, 1000)) ∧ ly_SH[q + 2]? = some (.inr (0, 4)) ∧ ly_SH[q + 3]? = some (.inr (0, 21)) := ly_Fo_of (h.lay (g := (0, 0)) (I := fun _ _ => 0) (L := fun _ _ => 0)) hq
theorem Mo_of {R : Nat → Nat → Value} (h : LR R) {q : Nat} (hq : q ∈ ly_Mo) : ly_SH[q]? = some (.inl 4) ∧ R (q) 0 = .ref (q + 1) ∧ R (q) 1 = .ref (q + 2) ∧ R (q) 2 = .ref (q + 3) ∧ ly_SH[q + 1]? = some (.inr (0, 30)) ∧ ly_SH[q + 2]? = some (.inr (0, 30)) ∧ ly_SH[q + 3]? = some (.inr (0, 30)) := ly_Mo_of (h.lay (g := (0, 0)) (I := fun _ _ => 0) (L := fun _ _ => 0)) hq
theorem Sa_of {R : Nat → Nat → Value} (h : LR R) {q : Nat} (hq : q ∈ ly_Sa) : ly_SH[q]? = some (.inl 6) ∧ R (q) 0 = .ref (q + 1) ∧ R (q) 1 = .ref (q + 2) ∧ ly_SH[q + 1]? = some (.inr (0, 6)) ∧ ly_SH[q + 2]? = some (.inr (0, 6)) := ly_Sa_of (h.lay (g := (0, 0)) (I := fun _ _ => 0) (L := fun _ _ => 0)) hq
theorem ms_0 : ly_SH[0]? = some (.inl 10) := by decide +kernel
theorem ms_1 : ly_SH[1]? = some (.inl 9) := by decide +kernel
theorem ms_2 : ly_SH[2]? = some (.inr (2, 1000)) := by decide +kernel
theorem ms_3 : ly_SH[3]? = some (.inl 2) := by decide +kernel
theorem ms_34 : ly_SH[34]? = some (.inl 2) := by decide +kernel
theorem ms_65 : ly_SH[65]? = some (.inl 4) := by decide +kernel
theorem ms_69 : ly_SH[69]? = some (.inl 4) := by decide +kernel
theorem ms_73 : ly_SH[73]? = some (.inl 7) := by decide +kernel
theorem ms_80 : ly_SH[80]? = some (.inl 7) := by decide +kernel
theorem ms_87 : ly_SH[87]? = some (.inr (5, 16)) := by decide +kernel
theorem ms_88 : ly_SH[88]? = some (.inr (5, 4)) := by decide +kernel
theorem ms_89 : ly_SH[89]? = some (.inr (4, 4)) := by decide +kernel
theorem ms_90 : ly_SH[90]? = some (.inl 6) := by decide +kernel
theorem ms_91 : ly_SH[91]? = some (.inr (0, 6)) := by decide +kernel
theorem ms_92 : ly_SH[92]? = some (.inr (0, 6)) := by decide +kernel
theorem ms_93 : ly_SH[93]? = some (.inl 5) := by decide +kernel
theorem ms_94 : ly_SH[94]? = some (.inr (0, 6)) := by decide +kernel
theorem ms_95 : ly_SH[95]? = some (.inr (0, 6)) := by decide +kernel
theorem ms_96 : ly_SH[96]? = some (.inr (0, 7)) := by decide +kernel
theorem ms_97 : ly_SH[97]? = some (.inr (0, 7)) := by decide +kernel
theorem ms_98 : ly_SH[98]? = some (.inr (0, 7)) := by decide +kernel
theorem ms_99 : ly_SH[99]? = some (.inl 3) := by decide +kernel
theorem ms_100 : ly_SH[100]? = some (.inr (0, 6)) := by decide +kernel
theorem ms_101 : ly_SH[101]? = some (.inl 0) := by decide +kernel
theorem ms_102 : ly_SH[102]? = some (.inr (0, 6)) := by decide +kernel
theorem ms_103 : ly_SH[103]? = some (.inr (0, 6)) := by decide +kernel
theorem ms_104 : ly_SH[104]? = some (.inr (0, 6)) := by decide +kernel
theorem ms_105 : ly_SH[105]? = some (.inr (6, 6)) := by decide +kernel
theorem ms_106 : ly_SH[106]? = some (.inr (0, 241)) := by decide +kernel
theorem ms_107 : ly_SH[107]? = some (.inr (0, 241)) := by decide +kernel
theorem ms_108 : ly_SH[108]? = some (.inr (0, 241)) := by decide +kernel
theorem ms_109 : ly_SH[109]? = some (.inr (0, 241)) := by decide +kernel
theorem ms_110 : ly_SH[110]? = some (.inr (0, 241)) := by decide +kernel
theorem ms_111 : ly_SH[111]? = some (.inr (0, 241)) := by decide +kernel
theorem ms_264 : ly_SH[264]? = some (.inl 11) := by decide +kernel
theorem ms_265 : ly_SH[265]? = some (.inr (0, 1000)) := by decide +kernel
theorem ms_266 : ly_SH[266]? = some (.inr (0, 1002)) := by decide +kernel
theorem ms_267 : ly_SH[267]? = some (.inr (0, 1002)) := by decide +kernel
theorem ms_268 : ly_SH[268]? = some (.inr (1, 1002)) := by decide +kernel
theorem ms_269 : ly_SH[269]? = some (.inr (1, 37)) := by decide +kernel
theorem ms_270 : ly_SH[270]? = some (.inr (0, 240)) := by decide +kernel
theorem ms_271 : ly_SH[271]? = some (.inr (0, 2200)) := by decide +kernel
theorem ms_272 : ly_SH[272]? = some (.inr (0, 2200)) := by decide +kernel
theorem ms_273 : ly_SH[273]? = some (.inr (1, 18)) := by decide +kernel
theorem ms_274 : ly_SH[274]? = some (.inr (1, 18)) := by decide +kernel
theorem ms_275 : ly_SH[275]? = some (.inr (0, 18)) := by decide +kernel
theorem ms_276 : ly_SH[276]? = some (.inr (0, 18)) := by decide +kernel
theorem ms_277 : ly_SH[277]? = some (.inr (0, 200)) := by decide +kernel
theorem ms_278 : ly_SH[278]? = some (.inr (0, 5)) := by decide +kernel
theorem ms_279 : ly_SH[279]? = some (.inr (0, 1100)) := by decide +kernel
theorem ms_280 : ly_SH[280]? = some (.inr (0, 1288)) := by decide +kernel
theorem ms_281 : ly_SH[281]? = some (.inr (3, 4)) := by decide +kernel
theorem ms_282 : ly_SH[282]? = some (.inr (0, 6)) := by decide +kernel
theorem ms_283 : ly_SH[283]? = some (.inr (0, 6)) := by decide +kernel
theorem ms_284 : ly_SH[284]? = some (.inr (0, 36)) := by decide +kernel
theorem ms_285 : ly_SH[285]? = some (.inr (0, 6)) := by decide +kernel
theorem ms_286 : ly_SH[286]? = some (.inr (0, 6)) := by decide +kernel
theorem ms_287 : ly_SH[287]? = some (.inr (0, 6)) := by decide +kernel
theorem ms_288 : ly_SH[288]? = some (.inr (0, 1446)) := by decide +kernel
theorem ms_289 : ly_SH[289]? = some (.inr (1, 1)) := by decide +kernel
theorem mr_0_0 {R : Nat → Nat → Value} (h : LR R) : R 0 0 = .ref 1 := lr_0_0 (h.lay (g := (0, 0)) (I := fun _ _ => 0) (L := fun _ _ => 0))
theorem mr_0_5 {R : Nat → Nat → Value} (h : LR R) : R 0 5 = .ref 73 := lr_0_5 (h.lay (g := (0, 0)) (I := fun _ _ => 0) (L := fun _ _ => 0))
theorem mr_0_6 {R : Nat → Nat → Value} (h : LR R) : R 0 6 = .ref 80 := lr_0_6 (h.lay (g := (0, 0)) (I := fun _ _ => 0) (L := fun _ _ => 0))
theorem mr_0_7 {R : Nat → Nat → Value} (h : LR R) : R 0 7 = .ref 87 := lr_0_7 (h.lay (g := (0, 0)) (I := fun _ _ => 0) (L := fun _ _ => 0))
theorem mr_0_10 {R : Nat → Nat → Value} (h : LR R) : R 0 10 = .ref 88 := lr_0_10 (h.lay (g := (0, 0)) (I := fun _ _ => 0) (L := fun _ _ => 0))
theorem mr_0_11 {R : Nat → Nat → Value} (h : LR R) : R 0 11 = .ref 89 := lr_0_11 (h.lay (g := (0, 0)) (I := fun _ _ => 0) (L := fun _ _ => 0))
theorem mr_0_13 {R : Nat → Nat → Value} (h : LR R) : R 0 13 = .ref 90 := lr_0_13 (h.lay (g := (0, 0)) (I := fun _ _ => 0) (L := fun _ _ => 0))
theorem mr_0_14 {R : Nat → Nat → Value} (h : LR R) : R 0 14 = .ref 93 := lr_0_14 (h.lay (g := (0, 0)) (I := fun _ _ => 0) (L := fun _ _ => 0))
theorem mr_0_15 {R : Nat → Nat → Value} (h : LR R) : R 0 15 = .ref 99 := lr_0_15 (h.lay (g := (0, 0)) (I := fun _ _ => 0) (L := fun _ _ => 0))
theorem mr_0_16 {R : Nat → Nat → Value} (h : LR R) : R 0 16 = .ref 101 := lr_0_16 (h.lay (g := (0, 0)) (I := fun _ _ => 0) (L := fun _ _ => 0))
theorem mr_1_0 {R : Nat → Nat → Value} (h : LR R) : R 1 0 = .ref 2 := lr_1_0 (h.lay (g := (0, 0)) (I := fun _ _ => 0) (L := fun _ _ => 0))
theorem mr_93_3 {R : Nat → Nat → Value} (h : LR R) : R 93 3 = .ref 94 := lr_93_3 (h.lay (g := (0, 0)) (I := fun _ _ => 0) (L := fun _ _ => 0))
theorem mr_93_4 {R : Nat → Nat → Value} (h : LR R) : R 93 4 = .ref 95 := lr_93_4 (h.lay (g := (0, 0)) (I := fun _ _ => 0) (L := fun _ _ => 0))
theorem mr_93_5 {R : Nat → Nat → Value} (h : LR R) : R 93 5 = .ref 96 := lr_93_5 (h.lay (g := (0, 0)) (I := fun _ _ => 0) (L := fun _ _ => 0))
theorem mr_93_6 {R : Nat → Nat → Value} (h : LR R) : R 93 6 = .ref 97 := lr_93_6 (h.lay (g := (0, 0)) (I := fun _ _ => 0) (L := fun _ _ => 0))
theorem mr_93_7 {R : Nat → Nat → Value} (h : LR R) : R 93 7 = .ref 98 := lr_93_7 (h.lay (g := (0, 0)) (I := fun _ _ => 0) (L := fun _ _ => 0))
theorem mr_99_0 {R : Nat → Nat → Value} (h : LR R) : R 99 0 = .ref 100 := lr_99_0 (h.lay (g := (0, 0)) (I := fun _ _ => 0) (L := fun _ _ => 0))
theorem mr_101_4 {R : Nat → Nat → Value} (h : LR R) : R 101 4 = .ref 102 := lr_101_4 (h.lay (g := (0, 0)) (I := fun _ _ => 0) (L := fun _ _ => 0))
theorem mr_101_5 {R : Nat → Nat → Value} (h : LR R) : R 101 5 = .ref 103 := lr_101_5 (h.lay (g := (0, 0)) (I := fun _ _ => 0) (L := fun _ _ => 0))
theorem mr_101_6 {R : Nat → Nat → Value} (h : LR R) : R 101 6 = .ref 104 := lr_101_6 (h.lay (g := (0, 0)) (I := fun _ _ => 0) (L := fun _ _ => 0))
theorem mr_101_7 {R : Nat → Nat → Value} (h : LR R) : R 101 7 = .ref 105 := lr_101_7 (h.lay (g := (0, 0)) (I := fun _ _ => 0) (L := fun _ _ => 0))
theorem mr_105_0 {R : Nat → Nat → Value} (h : LR R) : R 105 0 = .ref 106 := lr_105_0 (h.lay (g := (0, 0)) (I := fun _ _ => 0) (L := fun _ _ => 0))
theorem mr_105_1 {R : Nat → Nat → Value} (h : LR R) : R 105 1 = .ref 107 := lr_105_1 (h.lay (g := (0, 0)) (I := fun _ _ => 0) (L := fun _ _ => 0))
theorem mr_105_2 {R : Nat → Nat → Value} (h : LR R) : R 105 2 = .ref 108 := lr_105_2 (h.lay (g := (0, 0)) (I := fun _ _ => 0) (L := fun _ _ => 0))
theorem mr_105_3 {R : Nat → Nat → Value} (h : LR R) : R 105 3 = .ref 109 := lr_105_3 (h.lay (g := (0, 0)) (I := fun _ _ => 0) (L := fun _ _ => 0))
theorem mr_105_4 {R : Nat → Nat → Value} (h : LR R) : R 105 4 = .ref 110 := lr_105_4 (h.lay (g := (0, 0)) (I := fun _ _ => 0) (L := fun _ _ => 0))
theorem mr_105_5 {R : Nat → Nat → Value} (h : LR R) : R 105 5 = .ref 111 := lr_105_5 (h.lay (g := (0, 0)) (I := fun _ _ => 0) (L := fun _ _ => 0))
theorem mr_264_1 {R : Nat → Nat → Value} (h : LR R) : R 264 1 = .ref 265 := lr_264_1 (h.lay (g := (0, 0)) (I := fun _ _ => 0) (L := fun _ _ => 0))
theorem mr_264_4 {R : Nat → Nat → Value} (h : LR R) : R 264 4 = .ref 266 := lr_264_4 (h.lay (g := (0, 0)) (I := fun _ _ => 0) (L := fun _ _ => 0))
theorem mr_264_5 {R : Nat → Nat → Value} (h : LR R) : R 264 5 = .ref 267 := lr_264_5 (h.lay (g := (0, 0)) (I := fun _ _ => 0) (L := fun _ _ => 0))
theorem mr_264_6 {R : Nat → Nat → Value} (h : LR R) : R 264 6 = .ref 268 := lr_264_6 (h.lay (g := (0, 0)) (I := fun _ _ => 0) (L := fun _ _ => 0))
theorem mr_264_9 {R : Nat → Nat → Value} (h : LR R) : R 264 9 = .ref 269 := lr_264_9 (h.lay (g := (0, 0)) (I := fun _ _ => 0) (L := fun _ _ => 0))
theorem mr_264_10 {R : Nat → Nat → Value} (h : LR R) : R 264 10 = .ref 270 := lr_264_10 (h.lay (g := (0, 0)) (I := fun _ _ => 0) (L := fun _ _ => 0))
theorem mr_264_11 {R : Nat → Nat → Value} (h : LR R) : R 264 11 = .ref 271 := lr_264_11 (h.lay (g := (0, 0)) (I := fun _ _ => 0) (L := fun _ _ => 0))
theorem mr_264_12 {R : Nat → Nat → Value} (h : LR R) : R 264 12 = .ref 272 := lr_264_12 (h.lay (g := (0, 0)) (I := fun _ _ => 0) (L := fun _ _ => 0))
theorem mr_264_14 {R : Nat → Nat → Value} (h : LR R) : R 264 14 = .ref 273 := lr_264_14 (h.lay (g := (0, 0)) (I := fun _ _ => 0) (L := fun _ _ => 0))
theorem mr_264_15 {R : Nat → Nat → Value} (h : LR R) : R 264 15 = .ref 274 := lr_264_15 (h.lay (g := (0, 0)) (I := fun _ _ => 0) (L := fun _ _ => 0))
theorem mr_264_16 {R : Nat → Nat → Value} (h : LR R) : R 264 16 = .ref 275 := lr_264_16 (h.lay (g := (0, 0)) (I := fun _ _ => 0) (L := fun _ _ => 0))
theorem mr_264_17 {R : Nat → Nat → Value} (h : LR R) : R 264 17 = .ref 276 := lr_264_17 (h.lay (g := (0, 0)) (I := fun _ _ => 0) (L := fun _ _ => 0))
theorem mr_264_22 {R : Nat → Nat → Value} (h : LR R) : R 264 22 = .ref 277 := lr_264_22 (h.lay (g := (0, 0)) (I := fun _ _ => 0) (L := fun _ _ => 0))
theorem mr_264_23 {R : Nat → Nat → Value} (h : LR R) : R 264 23 = .ref 278 := lr_264_23 (h.lay (g := (0, 0)) (I := fun _ _ => 0) (L := fun _ _ => 0))
theorem mr_264_24 {R : Nat → Nat → Value} (h : LR R) : R 264 24 = .ref 279 := lr_264_24 (h.lay (g := (0, 0)) (I := fun _ _ => 0) (L := fun _ _ => 0))
theorem mr_264_25 {R : Nat → Nat → Value} (h : LR R) : R 264 25 = .ref 280 := lr_264_25 (h.lay (g := (0, 0)) (I := fun _ _ => 0) (L := fun _ _ => 0))
theorem mr_264_27 {R : Nat → Nat → Value} (h : LR R) : R 264 27 = .ref 281 := lr_264_27 (h.lay (g := (0, 0)) (I := fun _ _ => 0) (L := fun _ _ => 0))
theorem mr_264_29 {R : Nat → Nat → Value} (h : LR R) : R 264 29 = .ref 282 := lr_264_29 (h.lay (g := (0, 0)) (I := fun _ _ => 0) (L := fun _ _ => 0))
theorem mr_264_30 {R : Nat → Nat → Value} (h : LR R) : R 264 30 = .ref 283 := lr_264_30 (h.lay (g := (0, 0)) (I := fun _ _ => 0) (L := fun _ _ => 0))
theorem mr_264_32 {R : Nat → Nat → Value} (h : LR R) : R 264 32 = .ref 284 := lr_264_32 (h.lay (g := (0, 0)) (I := fun _ _ => 0) (L := fun _ _ => 0))
theorem mr_264_33 {R : Nat → Nat → Value} (h : LR R) : R 264 33 = .ref 285 := lr_264_33 (h.lay (g := (0, 0)) (I := fun _ _ => 0) (L := fun _ _ => 0))
theorem mr_264_34 {R : Nat → Nat → Value} (h : LR R) : R 264 34 = .ref 286 := lr_264_34 (h.lay (g := (0, 0)) (I := fun _ _ => 0) (L := fun _ _ => 0))
theorem mr_264_35 {R : Nat → Nat → Value} (h : LR R) : R 264 35 = .ref 287 := lr_264_35 (h.lay (g := (0, 0)) (I := fun _ _ => 0) (L := fun _ _ => 0))
theorem mr_264_36 {R : Nat → Nat → Value} (h : LR R) : R 264 36 = .ref 288 := lr_264_36 (h.lay (g := (0, 0)) (I := fun _ _ => 0) (L := fun _ _ => 0))
theorem xz_0 {n : Nat} (h : 0 < n) (hn : n < 2147483648) : dm_in 0 n = true := xi_in (a := 0) h hn
theorem xy_0 : (0 : Int32).toNatClampNeg = 0 := xi_cl (a := 0) (by decide)
theorem xz_1 {n : Nat} (h : 1 < n) (hn : n < 2147483648) : dm_in 1 n = true := xi_in (a := 1) h hn
theorem xy_1 : (1 : Int32).toNatClampNeg = 1 := xi_cl (a := 1) (by decide)
theorem xz_2 {n : Nat} (h : 2 < n) (hn : n < 2147483648) : dm_in 2 n = true := xi_in (a := 2) h hn
theorem xy_2 : (2 : Int32).toNatClampNeg = 2 := xi_cl (a := 2) (by decide)
theorem xz_3 {n : Nat} (h : 3 < n) (hn : n < 2147483648) : dm_in 3 n = true := xi_in (a := 3) h hn
theorem xy_3 : (3 : Int32).toNatClampNeg = 3 := xi_cl (a := 3) (by decide)
theorem xz_4 {n : Nat} (h : 4 < n) (hn : n < 2147483648) : dm_in 4 n = true := xi_in (a := 4) h hn
theorem xy_4 : (4 : Int32).toNatClampNeg = 4 := xi_cl (a := 4) (by decide)
theorem xz_5 {n : Nat} (h : 5 < n) (hn : n < 2147483648) : dm_in 5 n = true := xi_in (a := 5) h hn
theorem xy_5 : (5 : Int32).toNatClampNeg = 5 := xi_cl (a := 5) (by decide)
theorem xz_6 {n : Nat} (h : 6 < n) (hn : n < 2147483648) : dm_in 6 n = true := xi_in (a := 6) h hn
theorem xy_6 : (6 : Int32).toNatClampNeg = 6 := xi_cl (a := 6) (by decide)
theorem xz_7 {n : Nat} (h : 7 < n) (hn : n < 2147483648) : dm_in 7 n = true := xi_in (a := 7) h hn
theorem xy_7 : (7 : Int32).toNatClampNeg = 7 := xi_cl (a := 7) (by decide)
theorem xz_8 {n : Nat} (h : 8 < n) (hn : n < 2147483648) : dm_in 8 n = true := xi_in (a := 8) h hn
theorem xy_8 : (8 : Int32).toNatClampNeg = 8 := xi_cl (a := 8) (by decide)
theorem xz_10 {n : Nat} (h : 10 < n) (hn : n < 2147483648) : dm_in 10 n = true := xi_in (a := 10) h hn
theorem xy_10 : (10 : Int32).toNatClampNeg = 10 := xi_cl (a := 10) (by decide)
theorem xz_13 {n : Nat} (h : 13 < n) (hn : n < 2147483648) : dm_in 13 n = true := xi_in (a := 13) h hn
theorem xy_13 : (13 : Int32).toNatClampNeg = 13 := xi_cl (a := 13) (by decide)
theorem xz_19 {n : Nat} (h : 19 < n) (hn : n < 2147483648) : dm_in 19 n = true := xi_in (a := 19) h hn
theorem xy_19 : (19 : Int32).toNatClampNeg = 19 := xi_cl (a := 19) (by decide)
theorem xz_25 {n : Nat} (h : 25 < n) (hn : n < 2147483648) : dm_in 25 n = true := xi_in (a := 25) h hn
theorem xy_25 : (25 : Int32).toNatClampNeg = 25 := xi_cl (a := 25) (by decide)
theorem xz_26 {n : Nat} (h : 26 < n) (hn : n < 2147483648) : dm_in 26 n = true := xi_in (a := 26) h hn
theorem xy_26 : (26 : Int32).toNatClampNeg = 26 := xi_cl (a := 26) (by decide)
theorem xz_31 {n : Nat} (h : 31 < n) (hn : n < 2147483648) : dm_in 31 n = true := xi_in (a := 31) h hn
theorem xy_31 : (31 : Int32).toNatClampNeg = 31 := xi_cl (a := 31) (by decide)
theorem xz_37 {n : Nat} (h : 37 < n) (hn : n < 2147483648) : dm_in 37 n = true := xi_in (a := 37) h hn
theorem xy_37 : (37 : Int32).toNatClampNeg = 37 := xi_cl (a := 37) (by decide)
theorem xz_43 {n : Nat} (h : 43 < n) (hn : n < 2147483648) : dm_in 43 n = true := xi_in (a := 43) h hn
theorem xy_43 : (43 : Int32).toNatClampNeg = 43 := xi_cl (a := 43) (by decide)
theorem xz_44 {n : Nat} (h : 44 < n) (hn : n < 2147483648) : dm_in 44 n = true := xi_in (a := 44) h hn
theorem xy_44 : (44 : Int32).toNatClampNeg = 44 := xi_cl (a := 44) (by decide)
theorem xz_56 {n : Nat} (h : 56 < n) (hn : n < 2147483648) : dm_in 56 n = true := xi_in (a := 56) h hn
theorem xy_56 : (56 : Int32).toNatClampNeg = 56 := xi_cl (a := 56) (by decide)
theorem xz_92 {n : Nat} (h : 92 < n) (hn : n < 2147483648) : dm_in 92 n = true := xi_in (a := 92) h hn
theorem xy_92 : (92 : Int32).toNatClampNeg = 92 := xi_cl (a := 92) (by decide)
