/-! The fresh object: the relation with any beats of coffee. -/
def UNDx (br : Int32) (I : Nat → Nat → Int32) (nr n K : Nat) : Prop := ∃ cnt nx, cnt ≤ 16 ∧ nx < 16 ∧ I 0 8 = nI nx ∧ I 0 9 = nI cnt ∧ I 264 26 = nI cnt ∧ ∀ k, k < cnt → WFB nr n K (blk I (56 * (5 + k))) ∧ CP I (112 + 7 * ((nx + 16 - cnt + k) % 16)) br (blk I (56 * (5 + k)))
def MRKx (br : Int32) (I : Nat → Nat → Int32) (nr n K : Nat) : Prop := I 0 12 = b4 (mkB I 0) (mkB I 1) (mkB I 2) (mkB I 3) ∧ ∀ m, m < 4 → (I 281 m = 0 ∨ I 281 m = 1) ∧ (I 281 m = 1 → WFB nr n K (blk I (56 * (1 + m))) ∧ CP I (224 + 10 * m) br (blk I (56 * (1 + m))) ∧ SAM I (231 + 10 * m) (56 * (1 + m)))
def RlBx (br : Int32) (nr n K : Nat) (I : Nat → Nat → Int32) : Prop := WFB nr n K (I 280) ∧ CP I 73 br (I 280)
def Rlx (br : Int32) (h mo nr n ne K : Nat) (D W : Fml) (I : Nat → Nat → Int32) (L : Nat → Nat → Int64) (R : Nat → Nat → Value) : Prop :=
  LR R ∧ RlH h nr n ne D W I L R ∧ RlM mo nr n I R ∧ RlBx br nr n K I ∧ SAM I 90 0 ∧ UNDx br I nr n K ∧ MRKx br I nr n K ∧ TAP I ∧ CON I L
theorem UNDx.fr {br : Int32} {I I' : Nat → Nat → Int32} {nr n K : Nat} (s : UNDx br I nr n K) (h0 : I' 0 = I 0) (h26 : I' 264 26 = I 264 26) (h3 : I' 270 3 = I 270 3) (h : ∀ p, 112 ≤ p → p < 224 → I' p = I p) (h2 : ∀ i, 280 ≤ i → i < 1176 → I' 280 i = I 280 i) : UNDx br I' nr n K := by
  obtain ⟨cnt, nx, a1, a2, a3, a4, a5, a6⟩ := s
  refine ⟨cnt, nx, a1, a2, by rw [h0]; exact a3, by rw [h0]; exact a4, by rw [h26]; exact a5, fun k hk => ?_⟩
  obtain ⟨w, c⟩ := a6 k hk
  have e : EqB (blk I (56 * (5 + k))) (blk I' (56 * (5 + k))) := fun i hi => (h2 _ (by omega) (by omega)).symm
  refine ⟨w.eqv e, ?_⟩
  skip
  have hm : (nx + 16 - cnt + k) % 16 < 16 := Nat.mod_lt _ (by decide)
  exact (c.fr (fun p h1 h2 => h p (by omega) (by omega))).eq e
theorem MRKx.fr {br : Int32} {I I' : Nat → Nat → Int32} {nr n K : Nat} (s : MRKx br I nr n K) (h0 : I' 0 12 = I 0 12) (h281 : I' 281 = I 281) (h3 : I' 270 3 = I 270 3) (h : ∀ p, 224 ≤ p → p < 264 → I' p = I p) (h2 : ∀ i, 56 ≤ i → i < 280 → I' 280 i = I 280 i) : MRKx br I' nr n K := by
  obtain ⟨a, b⟩ := s
  refine ⟨?_, fun m hm => ?_⟩
  · unfold mkB; rw [h0, h281]; exact a
  · obtain ⟨b1, b2⟩ := b m hm
    rw [h281]
    refine ⟨b1, fun hb => ?_⟩
    obtain ⟨w, c, s⟩ := b2 hb
    have e : EqB (blk I (56 * (1 + m))) (blk I' (56 * (1 + m))) := fun i hi => (h2 _ (by omega) (by omega)).symm
    exact ⟨w.eqv e, (c.fr (fun p h1 h2 => h p (by omega) (by omega))).eq e, s.fr (fun p h1 h2 => h p (by omega) (by omega)) (fun i h1 h3 => h2 _ (by omega) (by omega))⟩
theorem RlBx.fr {br : Int32} {I I' : Nat → Nat → Int32} {nr n K : Nat} (s : RlBx br nr n K I) (h : ∀ p, 73 ≤ p → p < 80 → I' p = I p) (h3 : I' 270 3 = I 270 3) (h2 : ∀ i, i < 43 → I' 280 i = I 280 i) : RlBx br nr n K I' := by
  have e : EqB (I 280) (I' 280) := fun i hi => (h2 i hi).symm
  refine ⟨s.1.eqv e, ?_⟩
  skip
  exact (s.2.fr (fun p h1 h2 => h p (by omega) (by omega))).eq e
theorem Rlx.q {br : Int32} {h mo nr n ne K : Nat} {D W : Fml} {I I' : Nat → Nat → Int32} {L L' : Nat → Nat → Int64} {R R' : Nat → Nat → Value} (r : Rlx br h mo nr n ne K D W I L R) (q : Qt I I') (ql : QL L L') (hR : LR R') (h0 : R' 0 = R 0) : Rlx br h mo nr n ne K D W I' L' R' := by
  obtain ⟨a, b, c, d, e, f, g, t, u⟩ := r
  obtain ⟨q1, q2, q3, q4, q5, q6⟩ := q
  have n1 : ∀ p, p < 80 → ¬ scr p → I' p = I p := fun p hp hs => q1 p (by unfold scQ; exact fun z => z.elim hs (fun y => by omega)) (by omega) (by omega)
  have n2 : ∀ p, 112 ≤ p → p < 264 → I' p = I p := fun p h1 h2 => q1 p (by unfold scQ scr; omega) (by omega) (by omega)
  have n3 : ∀ p, 265 ≤ p → p < 278 → I' p = I p := fun p h1 h2 => q1 p (by unfold scQ scr; omega) (by omega) (by omega)
  refine ⟨hR, b.fr (fun p h1 h2 h3 => n1 p (by omega) h3) (n3 _ (by omega) (by omega)) (n3 _ (by omega) (by omega)) (n3 _ (by omega) (by omega)) (n3 _ (by omega) (by omega)) (q2 _ (by decide) (by decide) (by decide) (by decide)) (q2 _ (by decide) (by decide) (by decide) (by decide)) (fun p h1 h2 => ql p (by omega) (by omega)) (ql _ (by omega) (by omega)) h0, ?_, ?_, ?_, ?_, ?_, ?_, ?_⟩
  · exact c.fr (fun p h1 h2 => n1 p (by omega) (by unfold scr; omega)) (n3 _ (by omega) (by omega)) h0
  · exact d.fr (fun p h1 h2 => n1 p (by omega) (by unfold scr; omega)) (by rw [n3 _ (by omega) (by omega)]) (fun i hi => q3 i (by omega))
  · exact e.fr (fun p h1 h2 => q1 p (by unfold scQ scr; omega) (by omega) (by omega)) (fun i h1 h2 => q3 _ (by omega))
  · exact f.fr (n1 0 (by omega) (by unfold scr; omega)) (q2 _ (by decide) (by decide) (by decide) (by decide)) (by rw [n3 _ (by omega) (by omega)]) (fun p h1 h2 => n2 p (by omega) (by omega)) (fun i h1 h2 => q3 _ (by omega))
  · exact g.fr (by rw [n1 0 (by omega) (by unfold scr; omega)]) (q1 _ (by unfold scQ scr; omega) (by omega) (by omega)) (by rw [n3 _ (by omega) (by omega)]) (fun p h1 h2 => n2 p (by omega) (by omega)) (fun i h1 h2 => q3 _ (by omega))
  · exact t.fr (by rw [n1 1 (by omega) (by unfold scr; omega)]) (n1 2 (by omega) (by unfold scr; omega)) (q2 _ (by decide) (by decide) (by decide) (by decide)) (n3 _ (by omega) (by omega))
  · refine ⟨⟨q4.trans u.1.1, q5.trans u.1.2.1, q6.trans u.1.2.2⟩, ?_, ?_⟩
    · rw [n1 26 (by omega) (by unfold scr; omega), n1 30 (by omega) (by unfold scr; omega), n1 57 (by omega) (by unfold scr; omega), n1 61 (by omega) (by unfold scr; omega)]; exact u.2.1
    · rw [ql 269 (by omega) (by omega)]; exact u.2.2
theorem Rlx.K {br : Int32} {h mo nr n ne K K' : Nat} {D W : Fml} {I : Nat → Nat → Int32} {L : Nat → Nat → Int64} {R : Nat → Nat → Value} (r : Rlx br h mo nr n ne K D W I L R) (hk : K ≤ K') : Rlx br h mo nr n ne K' D W I L R := by
  obtain ⟨a, b, c, d, e, f, g, t, u⟩ := r
  refine ⟨a, b, c, ⟨d.1.K hk, d.2⟩, e, ?_, ⟨g.1, fun m hm => ⟨(g.2 m hm).1, fun h => ⟨((g.2 m hm).2 h).1.K hk, ((g.2 m hm).2 h).2⟩⟩⟩, t, u⟩
  obtain ⟨cnt, nx, a1, a2, a3, a4, a5, a6⟩ := f
  exact ⟨cnt, nx, a1, a2, a3, a4, a5, fun k hk2 => ⟨(a6 k hk2).1.K hk, (a6 k hk2).2⟩⟩
theorem Rlx.deed {br : Int32} {h mo nr n ne K K' : Nat} {D W : Fml} {I I0 I1 I' I2 : Nat → Nat → Int32} {L : Nat → Nat → Int64} {R : Nat → Nat → Value} {B' : Nat → Int32} (r : Rlx br h mo nr n ne K D W I L R) {nx cnt : Nat} (hx : nx < 16) (hc : cnt ≤ 16) (hu : ∀ k, k < cnt → WFB nr n K (blk I (56 * (5 + k))) ∧ CP I (112 + 7 * ((nx + 16 - cnt + k) % 16)) br (blk I (56 * (5 + k)))) (c1 : Rem nx cnt br (I 280) I I0) (c2 : CP I1 73 br B') (c3 : FrC 73 I0 I1) (k1 : Kep cnt (dm_up I1 264 0 0) I') (k2 : RB I2 0 B') (k3 : FrM 0 I' I2) (w : WFB nr n K' B') (hK : K ≤ K') : Rlx br h mo nr n ne K' D W I2 L R := by
  obtain ⟨a, b, c, e, f, -, m, t, u⟩ := r
  obtain ⟨r1, r2, r3, r4, r5⟩ := c1
  obtain ⟨k4, k5, k6, k7, k8⟩ := k1
  have cA : ∀ p, ¬ p = 0 → (p < 73 ∨ 80 ≤ p) → (p < 112 + 7 * nx ∨ 112 + 7 * nx + 7 ≤ p) → ¬ scr p → I1 p = I p := fun p h1 h2 h3 h4 => (c3 p h2 h4).trans (r5 p h1 h3)
  have mA : ∀ p, ¬ p = 264 → ¬ p = 280 → ¬ p = 278 → ¬ p = 279 → I2 p = I1 p := fun p h1 h2 h3 h4 => (k3.1 p h2 h3 h4).trans ((k6 p h1 h2).trans (dm_upp h1))
  have lo : ∀ p, 1 ≤ p → p < 73 → ¬ scr p → I2 p = I p := fun p h1 h2 h3 => (mA p (by omega) (by omega) (by omega) (by omega)).trans (cA p (by omega) (by omega) (by omega) h3)
  have mi : ∀ p, 80 ≤ p → p < 112 → I2 p = I p := fun p h1 h2 => (mA p (by omega) (by omega) (by omega) (by omega)).trans (cA p (by omega) (by omega) (by omega) (by unfold scr; omega))
  have hi : ∀ p, (224 ≤ p ∧ p < 290) → ¬ p = 264 → ¬ p = 280 → ¬ p = 278 → ¬ p = 279 → I2 p = I p := fun p h1 h2 h3 h4 h5 => (mA p h2 h3 h4 h5).trans (cA p (by omega) (by omega) (by omega) (by unfold scr; omega))
  have h264 : ∀ i, ¬ i = 0 → ¬ i = 26 → I2 264 i = I 264 i := fun i h1 h2 => by
    rw [k3.1 264 (by decide) (by decide) (by decide), k5 i h2, dm_upi h1, cA 264 (by omega) (by omega) (by omega) (by unfold scr; omega)]
  have h280 : ∀ i, 43 ≤ i → i < 280 → I2 280 i = I 280 i := fun i h1 h2 => by
    rw [k3.2 i (by omega), k7 i (by omega), dm_upp (by decide), cA 280 (by omega) (by omega) (by omega) (by unfold scr; omega)]
  have b280 : ∀ i, (dm_up I1 264 0 0) 280 i = I 280 i := fun i => by
    rw [dm_upp (by decide), cA 280 (by omega) (by omega) (by omega) (by unfold scr; omega)]
  have z0 : ∀ i, ¬ i = 8 → ¬ i = 9 → I2 0 i = I 0 i := fun i h8 h9 => by
    rw [mA 0 (by decide) (by decide) (by decide) (by decide), c3 0 (by omega) (by unfold scr; omega)]; exact r3 i h8 h9
  have e3 : I2 270 3 = I 270 3 := by rw [hi 270 (by omega) (by decide) (by decide) (by decide) (by decide)]
  have eB : EqB B' (I2 280) := fun i hi => by have := k2 i hi; rw [Nat.zero_add] at this; exact this.symm
  refine ⟨a, b.fr (fun p h1 h2 h3 => lo p (by omega) (by omega) h3) (hi _ (by omega) (by decide) (by decide) (by decide) (by decide)) (hi _ (by omega) (by decide) (by decide) (by decide) (by decide)) (hi _ (by omega) (by decide) (by decide) (by decide) (by decide)) (hi _ (by omega) (by decide) (by decide) (by decide) (by decide)) (h264 _ (by decide) (by decide)) (h264 _ (by decide) (by decide)) (fun _ _ _ => rfl) rfl rfl, c.fr (fun p h1 h2 => lo p (by omega) (by omega) (by unfold scr; omega)) (hi _ (by omega) (by decide) (by decide) (by decide) (by decide)) rfl, ⟨w.eqv eB, ?_⟩, f.fr (fun p h1 h2 => mi p (by omega) (by omega)) (fun i h1 h2 => h280 _ (by omega) (by omega)), ?_, ?_, t.fr (by rw [lo 1 (by omega) (by omega) (by unfold scr; omega)]) (lo 2 (by omega) (by omega) (by unfold scr; omega)) (h264 _ (by decide) (by decide)) (hi _ (by omega) (by decide) (by decide) (by decide) (by decide)), ?_⟩
  · skip
    exact (c2.fr (fun p h1 h2 => mA p (by omega) (by omega) (by omega) (by omega))).eq eB
  · refine ⟨min 16 (cnt + 1), (nx + 1) % 16, by omega, Nat.mod_lt _ (by decide), ?_, ?_, ?_, fun k hk => ?_⟩
    · rw [mA 0 (by decide) (by decide) (by decide) (by decide), c3 0 (by omega) (by unfold scr; omega)]; exact r1
    · rw [mA 0 (by decide) (by decide) (by decide) (by decide), c3 0 (by omega) (by unfold scr; omega)]; exact r2
    · rw [k3.1 264 (by decide) (by decide) (by decide)]; exact k4
    · have q8 := k8 k hk
      have mo : ∀ i, i < 43 → I2 280 (56 * (5 + k) + i) = I' 280 (56 * (5 + k) + i) := fun i hi => k3.2 _ (by omega)
      -- an elder block, held elsewhere in the ring
      have old : ∀ k' pl, k' < cnt → (nx + 16 - cnt + k') % 16 = pl → pl < 16 → ¬ pl = nx → (∀ i, i < 43 → I2 280 (56 * (5 + k) + i) = I 280 (56 * (5 + k') + i)) → WFB nr n K' (blk I2 (56 * (5 + k))) ∧ CP I2 (112 + 7 * pl) br (blk I2 (56 * (5 + k))) := fun k' pl h1 h2 h3 h4 h5 => by
        obtain ⟨u1, u2⟩ := hu k' h1
        have eE : EqB (blk I (56 * (5 + k'))) (blk I2 (56 * (5 + k))) := fun i hi => (h5 i hi).symm
        refine ⟨(u1.eqv eE).K hK, ?_⟩
        skip
        rw [h2] at u2
        exact (u2.fr (fun p g1 g2 => (mA p (by omega) (by omega) (by omega) (by omega)).trans (cA p (by omega) (by omega) (by omega) (by unfold scr; omega)))).eq eE
      have new : (∀ i, i < 43 → I2 280 (56 * (5 + k) + i) = I 280 i) → WFB nr n K' (blk I2 (56 * (5 + k))) ∧ CP I2 (112 + 7 * nx) br (blk I2 (56 * (5 + k))) := fun h5 => by
        have eE : EqB (I 280) (blk I2 (56 * (5 + k))) := fun i hi => (h5 i hi).symm
        refine ⟨(e.1.eqv eE).K hK, ?_⟩
        skip
        exact (r4.fr (fun p g1 g2 => (mA p (by omega) (by omega) (by omega) (by omega)).trans (c3 p (by omega) (by unfold scr; omega)))).eq eE
      by_cases h16 : cnt = 16
      · subst h16
        by_cases hk15 : k < 15
        · have ep : ((nx + 1) % 16 + 16 - min 16 (16 + 1) + k) % 16 = (nx + 16 - 16 + (k + 1)) % 16 := by omega
          rw [ep]
          exact old (k + 1) _ (by omega) rfl (by omega) (by omega) (fun i hi => by rw [mo i hi, q8 i hi, if_pos ⟨rfl, hk15⟩, b280])
        · have ep : ((nx + 1) % 16 + 16 - min 16 (16 + 1) + k) % 16 = nx := by omega
          rw [ep]
          exact new (fun i hi => by rw [mo i hi, q8 i hi, if_neg (by omega), if_neg (by omega), b280])
      · by_cases hkc : k < cnt
        · have ep : ((nx + 1) % 16 + 16 - min 16 (cnt + 1) + k) % 16 = (nx + 16 - cnt + k) % 16 := by omega
          rw [ep]
          exact old k _ hkc rfl (by omega) (by omega) (fun i hi => by rw [mo i hi, q8 i hi, if_neg (by omega), if_pos ⟨h16, hkc⟩, b280])
        · have ep : ((nx + 1) % 16 + 16 - min 16 (cnt + 1) + k) % 16 = nx := by omega
          rw [ep]
          exact new (fun i hi => by rw [mo i hi, q8 i hi, if_neg (by omega), if_neg (by omega), b280])
  · have m' : MRKx br I nr n K' := ⟨m.1, fun j hj => ⟨(m.2 j hj).1, fun z => ⟨((m.2 j hj).2 z).1.K hK, ((m.2 j hj).2 z).2⟩⟩⟩
    exact m'.fr (z0 12 (by decide) (by decide)) (hi _ (by omega) (by decide) (by decide) (by decide) (by decide)) e3 (fun p h1 h2 => hi p (by omega) (by omega) (by omega) (by omega) (by omega)) (fun i h1 h2 => h280 i (by omega) h2)
  · refine ⟨?_, ?_, u.2.2⟩
    · rw [mi 96 (by omega) (by omega), mi 97 (by omega) (by omega), mi 98 (by omega) (by omega)]; exact u.1
    · rw [lo 26 (by omega) (by omega) (by unfold scr; omega), lo 30 (by omega) (by omega) (by unfold scr; omega), lo 57 (by omega) (by omega) (by unfold scr; omega), lo 61 (by omega) (by omega) (by unfold scr; omega)]; exact u.2.1
theorem UNDx.K {br : Int32} {I : Nat → Nat → Int32} {nr n K K' : Nat} (s : UNDx br I nr n K) (h : K ≤ K') : UNDx br I nr n K' := by
  obtain ⟨cnt, nx, a1, a2, a3, a4, a5, a6⟩ := s
  exact ⟨cnt, nx, a1, a2, a3, a4, a5, fun k hk2 => ⟨(a6 k hk2).1.K h, (a6 k hk2).2⟩⟩
theorem MRKx.K {br : Int32} {I : Nat → Nat → Int32} {nr n K K' : Nat} (s : MRKx br I nr n K) (h : K ≤ K') : MRKx br I nr n K' := ⟨s.1, fun j hj => ⟨(s.2 j hj).1, fun z => ⟨((s.2 j hj).2 z).1.K h, ((s.2 j hj).2 z).2⟩⟩⟩
theorem Rlx.set {br : Int32} {h mo nr n ne K K' : Nat} {D W : Fml} {I I2 : Nat → Nat → Int32} {L : Nat → Nat → Int64} {R : Nat → Nat → Value} (r : Rlx br h mo nr n ne K D W I L R) (f : ∀ p, 1 ≤ p → p < 112 → ¬ scr p → (p < 73 ∨ 80 ≤ p) → (p < 90 ∨ 93 ≤ p) → I2 p = I p) (f2 : ∀ p, 265 ≤ p → p < 278 → I2 p = I p) (f3 : ∀ i, ¬ i = 0 → ¬ i = 26 → I2 264 i = I 264 i) (hB : RlBx br nr n K' I2) (hs : SAM I2 90 0) (hu : UNDx br I2 nr n K') (hm : MRKx br I2 nr n K') : Rlx br h mo nr n ne K' D W I2 L R := by
  obtain ⟨a, b, c, -, -, -, -, t, u⟩ := r
  refine ⟨a, b.fr (fun p h1 h2 h3 => f p (by omega) (by omega) h3 (by omega) (by omega)) (f2 _ (by omega) (by omega)) (f2 _ (by omega) (by omega)) (f2 _ (by omega) (by omega)) (f2 _ (by omega) (by omega)) (f3 _ (by decide) (by decide)) (f3 _ (by decide) (by decide)) (fun _ _ _ => rfl) rfl rfl, c.fr (fun p h1 h2 => f p (by omega) (by omega) (by unfold scr; omega) (by omega) (by omega)) (f2 _ (by omega) (by omega)) rfl, hB, hs, hu, hm, t.fr (by rw [f 1 (by omega) (by omega) (by unfold scr; omega) (by omega) (by omega)]) (f 2 (by omega) (by omega) (by unfold scr; omega) (by omega) (by omega)) (f3 _ (by decide) (by decide)) (f2 _ (by omega) (by omega)), ?_, ?_, u.2.2⟩
  · rw [f 96 (by omega) (by omega) (by unfold scr; omega) (by omega) (by omega), f 97 (by omega) (by omega) (by unfold scr; omega) (by omega) (by omega), f 98 (by omega) (by omega) (by unfold scr; omega) (by omega) (by omega)]; exact u.1
  · rw [f 26 (by omega) (by omega) (by unfold scr; omega) (by omega) (by omega), f 30 (by omega) (by omega) (by unfold scr; omega) (by omega) (by omega), f 57 (by omega) (by omega) (by unfold scr; omega) (by omega) (by omega), f 61 (by omega) (by omega) (by unfold scr; omega) (by omega) (by omega)]; exact u.2.1
theorem Rlx.tape {br : Int32} {h mo nr n ne K : Nat} {D W : Fml} {I I2 : Nat → Nat → Int32} {L : Nat → Nat → Int64} {R : Nat → Nat → Value} (r : Rlx br h mo nr n ne K D W I L R) (f : ∀ p, ¬ p = 1 → ¬ p = 2 → ¬ p = 264 → ¬ p = 265 → I2 p = I p) (f3 : ∀ i, ¬ i = 0 → ¬ i = 2 → I2 264 i = I 264 i) (ht : TAP I2) : Rlx br h mo nr n ne K D W I2 L R := by
  obtain ⟨a, b, c, d, e, u, m, -, k⟩ := r
  have fp : ∀ p, 3 ≤ p → p < 264 → I2 p = I p := fun p h1 h2 => f p (by omega) (by omega) (by omega) (by omega)
  have fq : ∀ p, 266 ≤ p → I2 p = I p := fun p h1 => f p (by omega) (by omega) (by omega) (by omega)
  refine ⟨a, b.fr (fun p h1 h2 _ => fp p (by omega) (by omega)) (fq _ (by omega)) (fq _ (by omega)) (fq _ (by omega)) (fq _ (by omega)) (f3 _ (by decide) (by decide)) (f3 _ (by decide) (by decide)) (fun _ _ _ => rfl) rfl rfl, c.fr (fun p h1 h2 => fp p (by omega) (by omega)) (fq _ (by omega)) rfl, d.fr (fun p h1 h2 => fp p (by omega) (by omega)) (by rw [fq _ (by omega)]) (fun i _ => by rw [fq _ (by omega)]), e.fr (fun p h1 h2 => fp p (by omega) (by omega)) (fun i _ _ => by rw [fq _ (by omega)]), u.fr (f 0 (by decide) (by decide) (by decide) (by decide)) (f3 _ (by decide) (by decide)) (by rw [fq _ (by omega)]) (fun p h1 h2 => fp p (by omega) (by omega)) (fun i _ _ => by rw [fq _ (by omega)]), m.fr (by rw [f 0 (by decide) (by decide) (by decide) (by decide)]) (fq _ (by omega)) (by rw [fq _ (by omega)]) (fun p h1 h2 => fp p (by omega) (by omega)) (fun i _ _ => by rw [fq _ (by omega)]), ht, ?_⟩
  refine ⟨?_, ?_, k.2.2⟩
  · rw [fp 96 (by omega) (by omega), fp 97 (by omega) (by omega), fp 98 (by omega) (by omega)]; exact k.1
  · rw [fp 26 (by omega) (by omega), fp 30 (by omega) (by omega), fp 57 (by omega) (by omega), fp 61 (by omega) (by omega)]; exact k.2.1
theorem Rlx.mon {br : Int32} {h mo mo' nr n ne K : Nat} {D W : Fml} {I I2 : Nat → Nat → Int32} {L L2 : Nat → Nat → Int64} {R R2 : Nat → Nat → Value} (r : Rlx br h mo nr n ne K D W I L R) (f : ∀ p, ¬ p = 1 → ¬ (65 ≤ p ∧ p < 73) → ¬ p = 264 → ¬ p = 266 → ¬ p = 267 → ¬ p = 277 → I2 p = I p) (f3 : ∀ i, ¬ i = 0 → ¬ i = 2 → ¬ i = 3 → ¬ i = 7 → ¬ i = 8 → I2 264 i = I 264 i) (fl : ∀ p, ¬ p = 1 → ¬ p = 268 → L2 p = L p) (hR : LR R2) (r1 : R2 0 1 = R 0 1) (r2 : R2 0 2 = R 0 2) (hm : RlM mo' nr n I2 R2) (ht : TAP I2) : Rlx br h mo' nr n ne K D W I2 L2 R2 := by
  obtain ⟨a, b, c, d, e, u, m, -, k⟩ := r
  have fp : ∀ p, 2 ≤ p → p < 65 → I2 p = I p := fun p h1 h2 => f p (by omega) (by omega) (by omega) (by omega) (by omega) (by omega)
  have fr : ∀ p, 73 ≤ p → p < 264 → I2 p = I p := fun p h1 h2 => f p (by omega) (by omega) (by omega) (by omega) (by omega) (by omega)
  have fq : ∀ p, 268 ≤ p → ¬ p = 277 → I2 p = I p := fun p h1 h2 => f p (by omega) (by omega) (by omega) (by omega) (by omega) (by omega)
  have f0 : I2 0 = I 0 := f 0 (by omega) (by omega) (by omega) (by omega) (by omega) (by omega)
  obtain ⟨⟨x1, x2, x3⟩, x4⟩ := b.fr (R' := R) (L' := L2) (I' := I2) (fun p h1 h2 _ => fp p (by omega) (by omega)) (fq _ (by omega) (by omega)) (fq _ (by omega) (by omega)) (fq _ (by omega) (by omega)) (fq _ (by omega) (by omega)) (f3 _ (by decide) (by decide) (by decide) (by decide) (by decide)) (f3 _ (by decide) (by decide) (by decide) (by decide) (by decide)) (fun p h1 h2 => fl p (by omega) (by omega)) (fl _ (by omega) (by omega)) rfl
  refine ⟨hR, ⟨⟨x1, by rw [r1]; exact x2, by rw [r2]; exact x3⟩, x4⟩, hm, d.fr (fun p h1 h2 => fr p (by omega) (by omega)) (by rw [fq _ (by omega) (by omega)]) (fun i _ => by rw [fq _ (by omega) (by omega)]), e.fr (fun p h1 h2 => fr p (by omega) (by omega)) (fun i _ _ => by rw [fq _ (by omega) (by omega)]), u.fr f0 (f3 _ (by decide) (by decide) (by decide) (by decide) (by decide)) (by rw [fq _ (by omega) (by omega)]) (fun p h1 h2 => fr p (by omega) (by omega)) (fun i _ _ => by rw [fq _ (by omega) (by omega)]), m.fr (by rw [f0]) (fq _ (by omega) (by omega)) (by rw [fq _ (by omega) (by omega)]) (fun p h1 h2 => fr p (by omega) (by omega)) (fun i _ _ => by rw [fq _ (by omega) (by omega)]), ht, ?_⟩
  refine ⟨?_, ?_, ?_⟩
  · rw [fr 96 (by omega) (by omega), fr 97 (by omega) (by omega), fr 98 (by omega) (by omega)]; exact k.1
  · rw [fp 26 (by omega) (by omega), fp 30 (by omega) (by omega), fp 57 (by omega) (by omega), fp 61 (by omega) (by omega)]; exact k.2.1
  · rw [fl 269 (by omega) (by omega)]; exact k.2.2
theorem Rlx.dft {br : Int32} {h mo nr n ne K : Nat} {D W : Fml} {I I2 : Nat → Nat → Int32} {L L2 : Nat → Nat → Int64} {R R2 : Nat → Nat → Value} (r : Rlx br h mo nr n ne K D W I L R) (f : ∀ p, ¬ p = 1 → ¬ (37 - h ≤ p ∧ p < 37 - h + 31) → ¬ p = 264 → ¬ p = 266 → ¬ p = 267 → ¬ p = 270 → ¬ p = 271 → ¬ p = 272 → ¬ p = 276 → I2 p = I p) (fo : I2 (37 - h + 23) 0 = I (37 - h + 23) 0 ∧ I2 (37 - h + 27) 0 = I (37 - h + 27) 0) (f3 : ∀ i, ¬ i = 0 → ¬ i = 2 → ¬ i = 3 → ¬ i = 7 → ¬ i = 8 → ¬ i = 13 → ¬ i = 19 → ¬ i = 20 → ¬ i = 21 → I2 264 i = I 264 i) (f4 : ∀ i, i < 120 → I2 270 i = I 270 i) (f5 : ∀ j, j < 1100 → I2 271 j = I 271 j ∧ I2 272 j = I 272 j) (fl : ∀ p, ¬ p = 1 → ¬ (37 - h ≤ p ∧ p < 37 - h + 31) → ¬ p = 268 → ¬ p = 274 → L2 p = L p) (hR : LR R2) (r0 : ∀ i, R2 0 i = R 0 i) (ht : TAP I2) : Rlx br h mo nr n ne K D W I2 L2 R2 := by
  obtain ⟨a, b, c, d, e, u, m, -, k⟩ := r
  obtain ⟨⟨x1, x2, x3⟩, b1, b2, b3, b4, b5, b6, b7, nm, y1, y2, y3⟩ := b
  have hl := ly_Ho2 x1
  have h6 : nr ≤ 6 ∧ n ≤ 6 ∧ ne ≤ 6 := ⟨b1.1.2.2.2.1, b1.1.2.2.2.2.1, b1.1.2.2.2.2.2⟩
  have fp : ∀ p, h ≤ p → p < h + 31 → I2 p = I p := fun p h1 h2 => f p (by omega) (by omega) (by omega) (by omega) (by omega) (by omega) (by omega) (by omega) (by omega)
  have fr : ∀ p, 65 ≤ p → p < 264 → I2 p = I p := fun p h1 h2 => f p (by omega) (by omega) (by omega) (by omega) (by omega) (by omega) (by omega) (by omega) (by omega)
  have fq : ∀ p, 277 ≤ p → I2 p = I p := fun p h1 => f p (by omega) (by omega) (by omega) (by omega) (by omega) (by omega) (by omega) (by omega) (by omega)
  have f0 : I2 0 = I 0 := f 0 (by omega) (by omega) (by omega) (by omega) (by omega) (by omega) (by omega) (by omega) (by omega)
  have R0 : R2 0 = R 0 := funext r0
  have e3 : I2 270 3 = I 270 3 := f4 3 (by decide)
  refine ⟨hR, ⟨⟨x1, by rw [r0]; exact x2, by rw [r0]; exact x3⟩, b1.row f4, ⟨(b2.1.fr fp).row h6 f4, b2.2.1.fr (fp _ (by omega) (by omega)) (fp _ (by omega) (by omega)), b2.2.2.fr (fp _ (by omega) (by omega)) (fp _ (by omega) (by omega))⟩, ?_, ?_, ?_, ?_, ?_, nm, y1, ?_, ?_⟩, c.fr (fun p h1 h2 => fr p (by omega) (by omega)) (fq _ (by omega)) R0, d.fr (fun p h1 h2 => fr p (by omega) (by omega)) e3 (fun i _ => by rw [fq _ (by omega)]), e.fr (fun p h1 h2 => fr p (by omega) (by omega)) (fun i _ _ => by rw [fq _ (by omega)]), u.fr f0 (f3 _ (by decide) (by decide) (by decide) (by decide) (by decide) (by decide) (by decide) (by decide) (by decide)) e3 (fun p h1 h2 => fr p (by omega) (by omega)) (fun i _ _ => by rw [fq _ (by omega)]), m.fr (by rw [f0]) (fq _ (by omega)) e3 (fun p h1 h2 => fr p (by omega) (by omega)) (fun i _ _ => by rw [fq _ (by omega)]), ht, ?_⟩
  · rw [f4 6 (by decide)]; exact b3.lo (fun c b h1 h2 h3 => b5 c b h1 h2 h3) f5
  · rw [f4 7 (by decide)]; exact b4.lo (fun c b h1 h2 h3 => b6 c b h1 h2 h3) f5
  · exact fun c b h1 h2 h3 => b5 c b h1 h2 (by rw [← f4 6 (by decide)]; exact h3)
  · exact fun c b h1 h2 h3 => b6 c b h1 h2 (by rw [← f4 7 (by decide)]; exact h3)
  · rw [e3, f3 28 (by decide) (by decide) (by decide) (by decide) (by decide) (by decide) (by decide) (by decide) (by decide)]; exact b7
  · rw [f3 18 (by decide) (by decide) (by decide) (by decide) (by decide) (by decide) (by decide) (by decide) (by decide)]; exact y2
  · exact y3.fr (fl _ (by omega) (by omega) (by omega) (by omega)) (f _ (by omega) (by omega) (by omega) (by omega) (by omega) (by omega) (by omega) (by omega) (by omega)) (fl _ (by omega) (by omega) (by omega) (by omega)) (fl _ (by omega) (by omega) (by omega) (by omega)) (fl _ (by omega) (by omega) (by omega) (by omega))
  · refine ⟨?_, ?_, ?_⟩
    · rw [fr 96 (by omega) (by omega), fr 97 (by omega) (by omega), fr 98 (by omega) (by omega)]; exact k.1
    · have k2 := k.2.1
      rcases hl with rfl | rfl
      · rw [fp 26 (by omega) (by omega), fp 30 (by omega) (by omega), fo.1, fo.2]; exact k2
      · rw [fp 57 (by omega) (by omega), fp 61 (by omega) (by omega), fo.1, fo.2]; exact k2
    · rw [fl 269 (by omega) (by omega) (by omega) (by omega)]; exact k.2.2
def FZ (n : Nat) : Prop := n = 0
def FR (K : Nat) (g : Nat × Nat) (σ : dm_St) : Prop := ∃ br h mo nr n ne D W I L R, σ = Mk g I L R ∧ FZ n ∧ Rlx br h mo nr n ne K D W I L R
def Fb (S : dm_Sc) (d ci mi : Nat) (as : List Value) : Prop := ∀ K g σ, K ≤ 600 → FR K g σ → ∃ v σ1 σ2, (∀ Q, xc S (d + 60) ci (.ref 0 :: as) σ Q ↔ Q (some (.int v)) σ1) ∧ (∀ Q, xc S (d + 60) mi (.ref 264 :: as) σ1 Q ↔ Q (some (.int v)) σ2) ∧ FR (K + 1) g σ2
theorem FR.q {br : Int32} {h mo nr n ne K : Nat} {D W : Fml} {g : Nat × Nat} {I I' : Nat → Nat → Int32} {L : Nat → Nat → Int64} {R : Nat → Nat → Value} (n0 : FZ n) (r : Rlx br h mo nr n ne K D W I L R) (q : Qt I I') : FR (K + 1) g (Mk g I' L R) := ⟨br, h, mo, nr, n, ne, D, W, I', L, R, rfl, n0, (r.q q (QL.refl L) r.1 rfl).K (by omega)⟩
theorem FR.q2 {br : Int32} {h mo nr n ne K : Nat} {D W : Fml} {g : Nat × Nat} {I I' : Nat → Nat → Int32} {L : Nat → Nat → Int64} {R R' : Nat → Nat → Value} (n0 : FZ n) (r : Rlx br h mo nr n ne K D W I L R) (q : Qt I I') (hR : LR R') (h0 : R' 0 = R 0) : FR (K + 1) g (Mk g I' L R') := ⟨br, h, mo, nr, n, ne, D, W, I', L, R', rfl, n0, (r.q q (QL.refl L) hR h0).K (by omega)⟩
theorem n0_in {nr n K : Nat} {B : Nat → Int32} (n0 : FZ n) (w : WFB nr n K B) {t : Int32} : ¬ inT B t := fun h => by
  obtain ⟨k, h1, -⟩ := h.n w
  unfold FZ at n0
  omega
theorem cntP_0 {H : Nat → Int32} {br br' : Int32} {n : Nat} {B : Nat → Int32} (n0 : FZ n) : cntP H br n B = cntP H br' n B := by unfold FZ at n0; subst n0; unfold cntP; rw [itB_0, itB_0]
theorem minB_0 {H : Nat → Int32} {br br' : Int32} {n : Nat} {B : Nat → Int32} (n0 : FZ n) : minB H br n B = minB H br' n B := by unfold minB; rw [cntP_0 (br' := br') n0]
theorem minV_0 {H : Nat → Int32} {br br' : Int32} {n : Nat} {B : Nat → Int32} (n0 : FZ n) : minV H br n B = minV H br' n B := by unfold minV; rw [cntP_0 (br' := br') n0]
theorem minsP_0 {H : Nat → Int32} {br br' : Int32} {n m : Nat} {B : Nat → Int32} (n0 : FZ n) : minsP H br n m B = minsP H br' n m B := by
  unfold minsP
  have e : (fun (_ : Nat) (p : (Nat → Int32) × Int32) => (minB H br n p.1, p.2 + minV H br n p.1)) = fun _ p => (minB H br' n p.1, p.2 + minV H br' n p.1) := by
    funext k p
    rw [minB_0 (br' := br') n0, minV_0 (br' := br') n0]
  rw [e]
