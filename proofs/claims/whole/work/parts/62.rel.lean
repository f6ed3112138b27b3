/-! What class and reference have in common between two calls. -/
/-- words: letters 1 to 26, as the class packs them, as the reference does -/
def okW (w : List Nat) : Prop := 1 ≤ w.length ∧ w.length ≤ 8 ∧ ∀ c ∈ w, 1 ≤ c ∧ c ≤ 26
def e32 (w : List Nat) : Int64 := Int64.ofNat (w.foldl (fun a c => a * 32 + c) 0)
def e37 (w : List Nat) : Int64 := Int64.ofNat (w.foldl (fun a c => a * 37 + c) 0)
def NMs (I : Nat → Nat → Int32) (L : Nat → Nat → Int64) (h pn pk nm nr n ne : Nat) : Prop := ∃ (wd : Nat → List Nat) (kd : Nat → Nat),
  (∀ k, k < nm → okW (wd k) ∧ L pn k = e37 (wd k) ∧ I pk k = nI (kd k)) ∧
  (∀ k, k < nm → (kd k < nr ∧ L (h + 2) (kd k) = e32 (wd k)) ∨ (20 ≤ kd k ∧ kd k < 20 + n ∧ L (h + 8) (kd k - 20) = e32 (wd k)) ∨ (kd k = 40 ∧ ∃ e, e < ne ∧ L (h + 18) e = e32 (wd k))) ∧
  (∀ r, r < nr → ∃ k, k < nm ∧ kd k = r) ∧ (∀ t, t < n → ∃ k, k < nm ∧ kd k = 20 + t) ∧ (∀ e, e < ne → ∃ k, k < nm ∧ kd k = 40 ∧ L (h + 18) e = e32 (wd k)) ∧
  (∀ k j, k < nm → j < nm → wd k = wd j → k = j)
/-- samples: the class's at q, the reference's at b of its row of states -/
def SAM (I : Nat → Nat → Int32) (q b : Nat) : Prop := ∃ ns, ns ≤ 6 ∧ I q 2 = nI ns ∧ I 280 (b + 43) = nI ns ∧ ∀ i, i < ns → ∃ m v, m ≤ 5 ∧ v ≤ 240 ∧ I (q + 1) i = nI m ∧ I (q + 2) i = nI v ∧ I 280 (b + 44 + 2 * i) = nI m ∧ I 280 (b + 45 + 2 * i) = nI v
def LIN (I : Nat → Nat → Int32) (mo nr n l : Nat) : Prop := ∃ w, w ≤ 5 ∧ I (mo + 1) l = nI w ∧ I 277 (1 + 3 * l) = nI w ∧
  (w = 3 → ∃ v, 1 ≤ v ∧ v ≤ 120 ∧ I (mo + 3) l = nI v ∧ I 277 (2 + 3 * l) = nI v) ∧
  (¬ w = 3 → ¬ w = 4 → ∃ a, a < n ∧ I (mo + 2) l = nI a ∧ I 277 (2 + 3 * l) = nI a) ∧
  (w = 1 → ∃ v, 1 ≤ v ∧ v ≤ 99 ∧ I (mo + 3) l = nI v ∧ I 277 (3 + 3 * l) = nI v) ∧
  (w = 5 → ∃ r, r < nr ∧ I (mo + 3) l = nI r ∧ I 277 (3 + 3 * l) = nI r)
def MON (I : Nat → Nat → Int32) (mo nr n : Nat) : Prop := ∃ nl, nl ≤ 30 ∧ I mo 3 = nI nl ∧ I 277 0 = nI nl ∧ ∀ l, l < nl → LIN I mo nr n l
/-- the block of the row of states at b -/
def blk (I : Nat → Nat → Int32) (b i : Nat) : Int32 := I 280 (b + i)
def UND (I : Nat → Nat → Int32) (nr n K : Nat) : Prop := ∃ cnt nx, cnt ≤ 16 ∧ nx < 16 ∧ I 0 8 = nI nx ∧ I 0 9 = nI cnt ∧ I 264 26 = nI cnt ∧ ∀ k, k < cnt → WFB nr n K (blk I (56 * (5 + k))) ∧ CP I (112 + 7 * ((nx + 16 - cnt + k) % 16)) (I 270 3) (blk I (56 * (5 + k)))
def b4 (a b c d : Bool) : Int32 := (if a then 1 else 0) ||| (if b then 2 else 0) ||| (if c then 4 else 0) ||| (if d then 8 else 0)
def mkB (I : Nat → Nat → Int32) (m : Nat) : Bool := decide (I 281 m = 1)
def MRK (I : Nat → Nat → Int32) (nr n K : Nat) : Prop := I 0 12 = b4 (mkB I 0) (mkB I 1) (mkB I 2) (mkB I 3) ∧ ∀ m, m < 4 → (I 281 m = 0 ∨ I 281 m = 1) ∧ (I 281 m = 1 → WFB nr n K (blk I (56 * (1 + m))) ∧ CP I (224 + 10 * m) (I 270 3) (blk I (56 * (1 + m))) ∧ SAM I (231 + 10 * m) (56 * (1 + m)))
def TAP (I : Nat → Nat → Int32) : Prop := ∃ sz, sz ≤ 1000 ∧ I 1 1 = nI sz ∧ I 264 2 = nI sz ∧ ∀ i, i < sz → ∃ c, (c = 10 ∨ (32 ≤ c ∧ c ≤ 126)) ∧ I 2 i = nI c ∧ I 265 i = nI c
def wrd37 : List Int64 := [932857, 1355082062, 27011078, 103383, 1396960994, 919322, 153785, 6395136, 347, 23280049, 381368328, 28930245, 37549136, 56296, 236456608, 22567355, 10492707, 6258, 1178051, 6243123, 450264416, 8421248, 34005868481, 730246, 679843, 30596128, 679553, 1288277118, 974850, 19741, 1891, 573, 4003715, 11873910, 570026, 36629575, 629152]
def CON (I : Nat → Nat → Int32) (L : Nat → Nat → Int64) : Prop := (I 96 0 = 0 ∧ I 97 0 = 0 ∧ I 98 0 = 0) ∧ (I 26 0 = 1 ∧ I 30 0 = 0 ∧ I 57 0 = 1 ∧ I 61 0 = 0) ∧ ∀ j, j < 37 → L 269 j = wrd37.getD j 0
def LIM (I : Nat → Nat → Int32) (D : Fml) (k : Nat) : Prop := ∀ c b, D = some c → b < 2147483648 → I 270 k = nI b → b + c.2 < 1100
def RlH (h nr n ne : Nat) (D W : Fml) (I : Nat → Nat → Int32) (L : Nat → Nat → Int64) (R : Nat → Nat → Value) : Prop :=
  (h ∈ ly_Ho ∧ R 0 1 = .ref h ∧ R 0 2 = .ref (37 - h)) ∧ WFH (I 270) nr n ne ∧ HC I h (I 270) nr n ne D W ∧ RFm I (I 270 6) faD D ∧ RFm I (I 270 7) faW W ∧ LIM I D 6 ∧ LIM I W 7 ∧ I 264 28 = I 270 3 ∧ ∃ nm, nm ≤ 18 ∧ I 264 18 = nI nm ∧ NMs I L h 273 275 nm nr n ne
def RlM (mo nr n : Nat) (I : Nat → Nat → Int32) (R : Nat → Nat → Value) : Prop := (mo ∈ ly_Mo ∧ R 0 3 = .ref mo ∧ R 0 4 = .ref (134 - mo)) ∧ MON I mo nr n
def RlB (nr n K : Nat) (I : Nat → Nat → Int32) : Prop := WFB nr n K (I 280) ∧ CP I 73 (I 270 3) (I 280)
def Rl (h mo nr n ne K : Nat) (D W : Fml) (I : Nat → Nat → Int32) (L : Nat → Nat → Int64) (R : Nat → Nat → Value) : Prop :=
  LR R ∧ RlH h nr n ne D W I L R ∧ RlM mo nr n I R ∧ RlB nr n K I ∧ SAM I 90 0 ∧ UND I nr n K ∧ MRK I nr n K ∧ TAP I ∧ CON I L
theorem SAM.fr {I I' : Nat → Nat → Int32} {q b : Nat} (s : SAM I q b) (h : ∀ p, q ≤ p → p < q + 3 → I' p = I p) (h2 : ∀ i, 43 ≤ i → i < 56 → I' 280 (b + i) = I 280 (b + i)) : SAM I' q b := by
  obtain ⟨ns, h6, e1, e2, e3⟩ := s
  refine ⟨ns, h6, by rw [h q (by omega) (by omega)]; exact e1, by rw [h2 43 (by omega) (by omega)]; exact e2, fun i hi => ?_⟩
  obtain ⟨m, v, hm, hv, f1, f2, f3, f4⟩ := e3 i hi
  refine ⟨m, v, hm, hv, by rw [h (q + 1) (by omega) (by omega)]; exact f1, by rw [h (q + 2) (by omega) (by omega)]; exact f2, ?_, ?_⟩
  · rw [Nat.add_assoc, h2 (44 + 2 * i) (by omega) (by omega), ← Nat.add_assoc]; exact f3
  · rw [Nat.add_assoc, h2 (45 + 2 * i) (by omega) (by omega), ← Nat.add_assoc]; exact f4
theorem LIN.fr {I I' : Nat → Nat → Int32} {mo nr n l : Nat} (s : LIN I mo nr n l) (h1 : I' (mo + 1) = I (mo + 1)) (h2 : I' (mo + 2) = I (mo + 2)) (h3 : I' (mo + 3) = I (mo + 3)) (h : I' 277 = I 277) : LIN I' mo nr n l := by
  unfold LIN; rw [h1, h2, h3, h]; exact s
theorem MON.fr {I I' : Nat → Nat → Int32} {mo nr n : Nat} (s : MON I mo nr n) (h0 : I' mo = I mo) (h1 : I' (mo + 1) = I (mo + 1)) (h2 : I' (mo + 2) = I (mo + 2)) (h3 : I' (mo + 3) = I (mo + 3)) (h : I' 277 = I 277) : MON I' mo nr n := by
  obtain ⟨nl, a, b, c, e⟩ := s
  exact ⟨nl, a, by rw [h0]; exact b, by rw [h]; exact c, fun l hl => (e l hl).fr h1 h2 h3 h⟩
theorem UND.fr {I I' : Nat → Nat → Int32} {nr n K : Nat} (s : UND I nr n K) (h0 : I' 0 = I 0) (h26 : I' 264 26 = I 264 26) (h3 : I' 270 3 = I 270 3) (h : ∀ p, 112 ≤ p → p < 224 → I' p = I p) (h2 : ∀ i, 280 ≤ i → i < 1176 → I' 280 i = I 280 i) : UND I' nr n K := by
  obtain ⟨cnt, nx, a1, a2, a3, a4, a5, a6⟩ := s
  refine ⟨cnt, nx, a1, a2, by rw [h0]; exact a3, by rw [h0]; exact a4, by rw [h26]; exact a5, fun k hk => ?_⟩
  obtain ⟨w, c⟩ := a6 k hk
  have e : EqB (blk I (56 * (5 + k))) (blk I' (56 * (5 + k))) := fun i hi => (h2 _ (by omega) (by omega)).symm
  refine ⟨w.eqv e, ?_⟩
  rw [h3]
  have hm : (nx + 16 - cnt + k) % 16 < 16 := Nat.mod_lt _ (by decide)
  exact (c.fr (fun p h1 h2 => h p (by omega) (by omega))).eq e
theorem MRK.fr {I I' : Nat → Nat → Int32} {nr n K : Nat} (s : MRK I nr n K) (h0 : I' 0 12 = I 0 12) (h281 : I' 281 = I 281) (h3 : I' 270 3 = I 270 3) (h : ∀ p, 224 ≤ p → p < 264 → I' p = I p) (h2 : ∀ i, 56 ≤ i → i < 280 → I' 280 i = I 280 i) : MRK I' nr n K := by
  obtain ⟨a, b⟩ := s
  refine ⟨?_, fun m hm => ?_⟩
  · unfold mkB; rw [h0, h281]; exact a
  · obtain ⟨b1, b2⟩ := b m hm
    rw [h281, h3]
    refine ⟨b1, fun hb => ?_⟩
    obtain ⟨w, c, s⟩ := b2 hb
    have e : EqB (blk I (56 * (1 + m))) (blk I' (56 * (1 + m))) := fun i hi => (h2 _ (by omega) (by omega)).symm
    exact ⟨w.eqv e, (c.fr (fun p h1 h2 => h p (by omega) (by omega))).eq e, s.fr (fun p h1 h2 => h p (by omega) (by omega)) (fun i h1 h3 => h2 _ (by omega) (by omega))⟩
theorem TAP.fr {I I' : Nat → Nat → Int32} (s : TAP I) (h1 : I' 1 1 = I 1 1) (h2 : I' 2 = I 2) (h3 : I' 264 2 = I 264 2) (h4 : I' 265 = I 265) : TAP I' := by
  unfold TAP; rw [h1, h2, h3, h4]; exact s
theorem NMs.fr {I I' : Nat → Nat → Int32} {L L' : Nat → Nat → Int64} {h pn pk nm nr n ne : Nat} (s : NMs I L h pn pk nm nr n ne) (h1 : L' pn = L pn) (h2 : I' pk = I pk) (h3 : L' (h + 2) = L (h + 2)) (h4 : L' (h + 8) = L (h + 8)) (h5 : L' (h + 18) = L (h + 18)) : NMs I' L' h pn pk nm nr n ne := by
  unfold NMs; rw [h1, h2, h3, h4, h5]; exact s
theorem RlB.fr {I I' : Nat → Nat → Int32} {nr n K : Nat} (s : RlB nr n K I) (h : ∀ p, 73 ≤ p → p < 80 → I' p = I p) (h3 : I' 270 3 = I 270 3) (h2 : ∀ i, i < 43 → I' 280 i = I 280 i) : RlB nr n K I' := by
  have e : EqB (I 280) (I' 280) := fun i hi => (h2 i hi).symm
  refine ⟨s.1.eqv e, ?_⟩
  rw [h3]
  exact (s.2.fr (fun p h1 h2 => h p (by omega) (by omega))).eq e
theorem RlM.fr {I I' : Nat → Nat → Int32} {R R' : Nat → Nat → Value} {mo nr n : Nat} (s : RlM mo nr n I R) (h : ∀ p, 65 ≤ p → p < 73 → I' p = I p) (h2 : I' 277 = I 277) (h3 : R' 0 = R 0) : RlM mo nr n I' R' := by
  obtain ⟨⟨a, b, c⟩, m⟩ := s
  have hm : mo = 65 ∨ mo = 69 := by simpa [ly_Mo] using a
  refine ⟨⟨a, by rw [h3]; exact b, by rw [h3]; exact c⟩, m.fr ?_ ?_ ?_ ?_ h2⟩
  all_goals exact h _ (by omega) (by omega)
theorem RlH.fr {I I' : Nat → Nat → Int32} {L L' : Nat → Nat → Int64} {R R' : Nat → Nat → Value} {h nr n ne : Nat} {D W : Fml} (s : RlH h nr n ne D W I L R) (f : ∀ p, 3 ≤ p → p < 65 → ¬ scr p → I' p = I p) (h270 : I' 270 = I 270) (h271 : I' 271 = I 271) (h272 : I' 272 = I 272) (h275 : I' 275 = I 275) (h28 : I' 264 28 = I 264 28) (h18 : I' 264 18 = I 264 18) (fl : ∀ p, 3 ≤ p → p < 65 → L' p = L p) (h273 : L' 273 = L 273) (h3 : R' 0 = R 0) : RlH h nr n ne D W I' L' R' := by
  obtain ⟨⟨a1, a2, a3⟩, b1, b2, b3, b4, b5, b6, b7, nm, c1, c2, c3⟩ := s
  have hh := ly_Ho2 a1
  refine ⟨⟨a1, by rw [h3]; exact a2, by rw [h3]; exact a3⟩, ?_, ?_, ?_, ?_, ?_, ?_, ?_, nm, c1, ?_, ?_⟩
  · rw [h270]; exact b1
  · rw [h270]; exact b2.fr a1 f
  · rw [h270]; exact b3.fr h271 h272
  · rw [h270]; exact b4.fr h271 h272
  · unfold LIM; rw [h270]; exact b5
  · unfold LIM; rw [h270]; exact b6
  · rw [h270, h28]; exact b7
  · rw [h18]; exact c2
  · exact c3.fr h273 h275 (fl _ (by omega) (by omega)) (fl _ (by omega) (by omega)) (fl _ (by omega) (by omega))
/-- what may be written while one only asks -/
def scQ (p : Nat) : Prop := scr p ∨ (80 ≤ p ∧ p < 87) ∨ (93 ≤ p ∧ p < 112) ∨ p = 278 ∨ p = 279 ∨ (282 ≤ p ∧ p < 290)
def Qt (I I' : Nat → Nat → Int32) : Prop := (∀ p, ¬ scQ p → ¬ p = 264 → ¬ p = 280 → I' p = I p) ∧ (∀ i, ¬ i = 0 → ¬ i = 31 → ¬ i = 37 → ¬ i = 38 → I' 264 i = I 264 i) ∧ (∀ i, i < 1176 → I' 280 i = I 280 i) ∧ I' 96 0 = I 96 0 ∧ I' 97 0 = I 97 0 ∧ I' 98 0 = I 98 0
def QL (L L' : Nat → Nat → Int64) : Prop := ∀ p, ¬ p = 264 → ¬ p = 289 → L' p = L p
theorem Qt.refl (I : Nat → Nat → Int32) : Qt I I := ⟨fun _ _ _ _ => rfl, fun _ _ _ _ _ => rfl, fun _ _ => rfl, rfl, rfl, rfl⟩
theorem Qt.trans {I I' I'' : Nat → Nat → Int32} (a : Qt I I') (b : Qt I' I'') : Qt I I'' := ⟨fun p h1 h2 h3 => (b.1 p h1 h2 h3).trans (a.1 p h1 h2 h3), fun i h1 h2 h3 h4 => (b.2.1 i h1 h2 h3 h4).trans (a.2.1 i h1 h2 h3 h4), fun i hi => (b.2.2.1 i hi).trans (a.2.2.1 i hi), b.2.2.2.1.trans a.2.2.2.1, b.2.2.2.2.1.trans a.2.2.2.2.1, b.2.2.2.2.2.trans a.2.2.2.2.2⟩
theorem QL.refl (L : Nat → Nat → Int64) : QL L L := fun _ _ _ => rfl
theorem Rl.q {h mo nr n ne K : Nat} {D W : Fml} {I I' : Nat → Nat → Int32} {L L' : Nat → Nat → Int64} {R R' : Nat → Nat → Value} (r : Rl h mo nr n ne K D W I L R) (q : Qt I I') (ql : QL L L') (hR : LR R') (h0 : R' 0 = R 0) : Rl h mo nr n ne K D W I' L' R' := by
  obtain ⟨a, b, c, d, e, f, g, t, u⟩ := r
  obtain ⟨q1, q2, q3, q4, q5, q6⟩ := q
  have n1 : ∀ p, p < 80 → ¬ scr p → I' p = I p := fun p hp hs => q1 p (by unfold scQ; exact fun z => z.elim hs (fun y => by omega)) (by omega) (by omega)
  have n2 : ∀ p, 112 ≤ p → p < 264 → I' p = I p := fun p h1 h2 => q1 p (by unfold scQ scr; omega) (by omega) (by omega)
  have n3 : ∀ p, 265 ≤ p → p < 278 → I' p = I p := fun p h1 h2 => q1 p (by unfold scQ scr; omega) (by omega) (by omega)
  refine ⟨hR, b.fr (fun p h1 h2 h3 => n1 p (by omega) h3) (n3 _ (by omega) (by omega)) (n3 _ (by omega) (by omega)) (n3 _ (by omega) (by omega)) (n3 _ (by omega) (by omega)) (q2 _ (by decide) (by decide) (by decide) (by decide)) (q2 _ (by decide) (by decide) (by decide) (by decide)) (fun p h1 h2 => ql p (by omega) (by omega)) (ql _ (by omega) (by omega)) h0, ?_, ?_, ?_, ?_, ?_, ?_, ?_⟩
  · exact c.fr (fun p h1 h2 => n1 p (by omega) (by unfold scr; omega)) (n3 _ (by omega) (by omega)) h0
  · exact d.fr (fun p h1 h2 => n1 p (by omega) (by unfold scr; omega)) (by rw [n3 _ (by omega) (by omega)]) (fun i hi => q3 i (by omega))
  · exact e.fr (fun p h1 h2 => q1 p (by unfold scQ scr; omega) (by omega) (by omega)) (fun i h1 h2 => q3 _ (by omega))
  · exact f.fr (n1 0 (by omega) (by unfold scr; omega)) (q2 _ (by decide) (by decide) (by decide) (by decide)) (by rw [n3 _ (by omega) (by omega)]) (fun p h1 h2 => n2 p (by omega) (by omega)) (fun i h1 h2 => q3 _ (by omega))
  · exact g.fr (by rw [n1 0 (by omega) (by unfold scr; omega)]) (q1 _ (by unfold scQ scr; omega) (by omega) (by omega)) (by rw [n3 _ (by omega) (by omega)]) (fun p h1 h2 => n2 p (by omega) (by omega)) (fun i h1 h2 => q3 _ (by omega))
  · exact t.fr (by rw [n1 1 (by omega) (by unfold scr; omega)]) (n1 2 (by omega) (by unfold scr; omega)) (q2 _ (by decide) (by decide) (by decide) (by decide)) (n3 _ (by omega) (by omega))
  · refine ⟨⟨q4.trans u.1.1, q5.trans u.1.2.1, q6.trans u.1.2.2⟩, ?_, ?_⟩
    · rw [n1 26 (by omega) (by unfold scr; omega), n1 30 (by omega) (by unfold scr; omega), n1 57 (by omega) (by unfold scr; omega), n1 61 (by omega) (by unfold scr; omega)]; exact u.2.1
    · rw [ql 269 (by omega) (by omega)]; exact u.2.2
theorem Rl.K {h mo nr n ne K K' : Nat} {D W : Fml} {I : Nat → Nat → Int32} {L : Nat → Nat → Int64} {R : Nat → Nat → Value} (r : Rl h mo nr n ne K D W I L R) (hk : K ≤ K') : Rl h mo nr n ne K' D W I L R := by
  obtain ⟨a, b, c, d, e, f, g, t, u⟩ := r
  refine ⟨a, b, c, ⟨d.1.K hk, d.2⟩, e, ?_, ⟨g.1, fun m hm => ⟨(g.2 m hm).1, fun h => ⟨((g.2 m hm).2 h).1.K hk, ((g.2 m hm).2 h).2⟩⟩⟩, t, u⟩
  obtain ⟨cnt, nx, a1, a2, a3, a4, a5, a6⟩ := f
  exact ⟨cnt, nx, a1, a2, a3, a4, a5, fun k hk2 => ⟨(a6 k hk2).1.K hk, (a6 k hk2).2⟩⟩
theorem nI_lt2 {t : Int32} {N : Nat} (hN : N < 2147483648) (h0 : 0 ≤ t) (h : t < nI N) : ∃ k, k < N ∧ t = nI k := by
  have e0 : (0 : Int) ≤ t.toInt := by
    have := Int32.le_iff_toInt_le.mp h0
    simpa using this
  have e1 : t.toInt < N := by
    have := Int32.lt_iff_toInt_lt.mp h
    unfold nI at this
    rwa [Int32.toInt_ofNat_of_lt (by omega)] at this
  refine ⟨t.toNatClampNeg, ?_, ?_⟩
  · have : (t.toNatClampNeg : Int) = t.toInt := by rw [Int32.toNatClampNeg]; omega
    omega
  · unfold nI
    apply Int32.toInt_inj.mp
    have e2 : ((t.toNatClampNeg : Nat) : Int) = t.toInt := by rw [Int32.toNatClampNeg]; omega
    rw [Int32.toInt_ofNat_of_lt (by omega), e2]
theorem nI_cut (t : Int32) (N : Nat) (hN : N < 2147483648) : (∃ k, k < N ∧ t = nI k) ∨ (t < 0 ∨ nI N ≤ t) := by
  by_cases h0 : t < 0
  · exact Or.inr (Or.inl h0)
  · by_cases h1 : nI N ≤ t
    · exact Or.inr (Or.inr h1)
    · exact Or.inl (nI_lt2 hN (Int32.not_lt.mp h0) (Int32.not_le.mp h1))
/-- one who is in -/
def inT (B : Nat → Int32) (t : Int32) : Prop := ∃ k, k < 6 ∧ t = nI k ∧ ¬ B (1 + k) = -1
theorem c_isIn0 {S : dm_Sc} {d : Nat} {g : Nat × Nat} {I : Nat → Nat → Int32} {L : Nat → Nat → Int64} {R : Nat → Nat → Value} {Q : Option Value → dm_St → Prop} (hR : LR R) {q : Nat} {B : Nat → Int32} {br : Int32} (hq : q ∈ ly_St) (c : CP I q br B) {t : Int32} (ht : ¬ inT B t) : xc S (d + 1) 61 [.ref q, .int t] (Mk g I L R) Q ↔ Q (some (.int 0)) (Mk g I L R) := by
  rcases nI_cut t 6 (by decide) with ⟨k, hk, rfl⟩ | h
  · have e : B (1 + k) = -1 := Classical.byContradiction fun z => ht ⟨k, hk, rfl, z⟩
    have h := c_isInC (S := S) (d := d) (g := g) (L := L) (Q := Q) hR hq c hk
    rw [if_pos e] at h
    exact h
  · exact c_isIn_out (σ := Mk g I L R) hR.lay hq t h
theorem m_isIn0 {S : dm_Sc} {d : Nat} {g : Nat × Nat} {I : Nat → Nat → Int32} {L : Nat → Nat → Int64} {R : Nat → Nat → Value} {Q : Option Value → dm_St → Prop} (hR : LR R) {nr n K b : Nat} {B : Nat → Int32} (hN : I 270 1 = nI n) (hn : n ≤ 6) (w : WFB nr n K B) (h6 : nr ≤ 6) (hB : RB I b B) (hb : b + 56 ≤ 1288) {t : Int32} (ht : ¬ inT B t) : xc S (d + 3) 201 [.ref 264, .int (nI b), .int t] (Mk g I L R) Q ↔ Q (some (.int 0)) (Mk g I L R) := by
  rcases nI_cut t n (by omega) with ⟨k, hk, rfl⟩ | h
  · have e : B (1 + k) = -1 := Classical.byContradiction fun z => ht ⟨k, by omega, rfl, z⟩
    have h := m_isInR (S := S) (d := d) (g := g) (L := L) (Q := Q) hR hN hn w h6 hB hb hk
    rw [if_pos e] at h
    exact h
  · refine m_isIn_no (σ := Mk g I L R) hR.lay (nI b) t ?_
    rw [mkI, hN]
    intro z
    rcases h with h | h
    · exact absurd h (Int32.not_lt.mpr z.1)
    · exact absurd h (Int32.not_le.mpr z.2)
theorem RB.I0 (I : Nat → Nat → Int32) : RB I 0 (I 280) := fun i _ => by rw [Nat.zero_add]
theorem RB.I (I : Nat → Nat → Int32) (b : Nat) : RB I b (blk I b) := fun i _ => rfl
theorem inT.n {nr n K : Nat} {B : Nat → Int32} (w : WFB nr n K B) {t : Int32} (h : inT B t) : ∃ k, k < n ∧ k < 6 ∧ t = nI k ∧ ¬ B (1 + k) = -1 := by
  obtain ⟨k, h6, e, hi⟩ := h
  exact ⟨k, ((w.1 k h6).resolve_left hi).1, h6, e, hi⟩
