/-! the law: each call, of the class and of the reference -/
def MID (X : XX) (b L : Nat) (xs : Nat → Int32) (m : Mem) : Prop := gT m X.1 = 7 ∧ gT m b = 18 ∧ gN m b = L ∧ aI m b = xs
def LSI (G : GG) (d5 : Nat) (u5 : MI) (d6 : Nat) (u6 : MI) (F : Nat) (X : XX) (b L : Nat) (xs : Nat → Int32) (z0 n0 : Nat) (args : List Value) (m : Mem) : Prop := ∃ (v : Int32) (m1 m2 : Mem), Ev G d5 u5 (.ref F :: args) m (some (.int v)) m1 ∧ Ev G d6 u6 (.ref X.1 :: args) m1 (some (.int v)) m2 ∧ MID X b L xs m1 ∧ IV F X b L xs z0 n0 m2
def LSL (G : GG) (d5 : Nat) (u5 : MI) (d6 : Nat) (u6 : MI) (F : Nat) (X : XX) (b L : Nat) (xs : Nat → Int32) (z0 n0 : Nat) (args : List Value) (m : Mem) : Prop := ∃ (v : Int64) (m1 m2 : Mem), Ev G d5 u5 (.ref F :: args) m (some (.long v)) m1 ∧ Ev G d6 u6 (.ref X.1 :: args) m1 (some (.long v)) m2 ∧ MID X b L xs m1 ∧ IV F X b L xs z0 n0 m2
theorem rf_self {m : Mem} {o : Nat → Nat} {X : XX} {kf : KF} {vf : VF} {lf : Nat → Int32} (h : RF m o X kf vf lf) : MM m X (kf, vf, lf) = m := by
  obtain ⟨-, ⟨h1, h2, h3⟩, -⟩ := h
  rw [← h1, ← h2, ← h3]
  exact mm_self
theorem rf_mid {m : Mem} {o : Nat → Nat} {X : XX} {kf : KF} {vf : VF} {lf : Nat → Int32} {b L : Nat} {xs : Nat → Int32} (h : RF m o X kf vf lf) (s : SS m o b L xs) : MID X b L xs m := ⟨h.1.1, s.1, s.2.1, s.2.2.1⟩
section Law1
variable {G : GG} {d5 d6 : Nat} {u5 u6 : MI} {F : Nat} {X : XX} {b L : Nat} {xs : Nat → Int32} {z0 n0 : Nat} {m : Mem} {o : Nat → Nat} {YL : YY} {AN : Nat × Nat × Nat} {kf kf' : KF} {vf vf' : VF} {n s : Nat} {nf : Nat → Int64} {lf lf' : Nat → Int32} {r a : Nat} {st : Int32} {args : List Value}
theorem ls_st {v : Int32} (hI : INV F X b L xs z0 n0 m o YL AN kf vf n s nf lf r a) (E5 : EvC G d5 u5 (.ref F :: args) m (fun r mm => r = some (.int v) ∧ PM m o F YL AN mm kf' vf' st)) (E6 : ∀ m' : Mem, MW m' X → gI m' 124 X.1 = gI m 124 X.1 → aI m' X.2.2.2.1 = aI m X.2.2.2.1 → aL m' X.2.2.2.2.1 = aL m X.2.2.2.2.1 → Ev G d6 u6 (.ref X.1 :: args) (MM m' X (kf, vf, lf)) (some (.int v)) (MM (sI m' 125 X.1 st) X (kf', vf', lf'))) : LSI G d5 u5 d6 u6 F X b L xs z0 n0 args m := by
  obtain ⟨_, m1, ⟨rfl, hP⟩, E⟩ := E5
  obtain ⟨o1, Y1, A1, n1, s1, nf1, hC, hR, -, -, -, -, hS, -, g1, g2, g3⟩ := inv_pm hI hP
  have E' := E6 m1 hR.1 g3 g1 g2
  rw [rf_self hR] at E'
  exact ⟨v, m1, _, E, E', rf_mid hR hS, inv_st hI hP⟩
theorem ls_q {v : Int32} (hI : INV F X b L xs z0 n0 m o YL AN kf vf n s nf lf r a) (E5 : EvC G d5 u5 (.ref F :: args) m (fun r mm => r = some (.int v) ∧ PM m o F YL AN mm kf vf (gI m 105 F))) (E6 : ∀ m' : Mem, MW m' X → gI m' 125 X.1 = gI m 105 F → gI m' 126 X.1 = gI m 106 F → Ev G d6 u6 (.ref X.1 :: args) (MM m' X (kf, vf, lf)) (some (.int v)) (MM m' X (kf, vf, lf))) : LSI G d5 u5 d6 u6 F X b L xs z0 n0 args m := by
  obtain ⟨_, m1, ⟨rfl, hP⟩, E⟩ := E5
  have q1 := hI.2.2.1.1
  have q2 := hI.2.2.1.2
  have hf : gI m1 106 F = gI m 106 F := by
    obtain ⟨o1, Y1, A1, n1, s1, nf1, c1, c2, c3, ⟨f1, f2, f3, f4, f5⟩, c5⟩ := hP
    exact f3
  obtain ⟨o1, Y1, A1, n1, s1, nf1, hC, hR, ⟨i5, i6, i7⟩, -, -, -, hS, -, g1, g2, g3⟩ := inv_pm hI hP
  have E' := E6 m1 hR.1 (i7.trans q1.symm) (i6.symm.trans hf)
  rw [rf_self hR] at E'
  exact ⟨v, m1, m1, E, E', rf_mid hR hS, inv_q hI hP⟩
theorem ls_ql {v : Int64} (hI : INV F X b L xs z0 n0 m o YL AN kf vf n s nf lf r a) (E5 : EvC G d5 u5 (.ref F :: args) m (fun r mm => r = some (.long v) ∧ PM m o F YL AN mm kf vf (gI m 105 F))) (E6 : ∀ m' : Mem, MW m' X → Ev G d6 u6 (.ref X.1 :: args) (MM m' X (kf, vf, lf)) (some (.long v)) (MM m' X (kf, vf, lf))) : LSL G d5 u5 d6 u6 F X b L xs z0 n0 args m := by
  obtain ⟨_, m1, ⟨rfl, hP⟩, E⟩ := E5
  obtain ⟨o1, Y1, A1, n1, s1, nf1, hC, hR, -, -, -, -, hS, -, g1, g2, g3⟩ := inv_pm hI hP
  have E' := E6 m1 hR.1
  rw [rf_self hR] at E'
  exact ⟨v, m1, m1, E, E', rf_mid hR hS, inv_q hI hP⟩
end Law1
section Law2
variable {G : GG} {F : Nat} {X : XX} {b L : Nat} {xs : Nat → Int32} {z0 n0 : Nat} {m : Mem}

theorem l_program (h : IV F X b L xs z0 n0 m) (p : Int32) (e : Int64) (q : Int32) : LSI G 4 uX5_program 1 uX6_program F X b L xs z0 n0 [.int p, .long e, .int q] m := by
  obtain ⟨o, YL, AN, kf, vf, n, s, nf, lf, r, a, hI⟩ := h
  obtain ⟨hC, hS, hH⟩ := id hI.1
  have hn1 := hS.1.1.1
  have hn2 := hS.1.1.2
  obtain ⟨c, hc, h3⟩ := hS.1.2.2.2.2.2.2.2.1
  exact ls_st hI (k5_program hC hS hH p e q) (fun m' hX _ _ _ => m_program hX hS.1.2.2.2.2.2.1)

theorem l_task (h : IV F X b L xs z0 n0 m) (k p q : Int32) : LSI G 4 uX5_task 2 uX6_task F X b L xs z0 n0 [.int k, .int p, .int q] m := by
  obtain ⟨o, YL, AN, kf, vf, n, s, nf, lf, r, a, hI⟩ := h
  obtain ⟨hC, hS, hH⟩ := id hI.1
  have hn1 := hS.1.1.1
  have hn2 := hS.1.1.2
  obtain ⟨c, hc, h3⟩ := hS.1.2.2.2.2.2.2.2.1
  exact ls_st hI (k5_task hC hS hH k p q) (fun m' hX _ _ _ => m_task hX hn1 hn2)

theorem l_share (h : IV F X b L xs z0 n0 m) (p q : Int32) : LSI G 4 uX5_share 3 uX6_share F X b L xs z0 n0 [.int p, .int q] m := by
  obtain ⟨o, YL, AN, kf, vf, n, s, nf, lf, r, a, hI⟩ := h
  obtain ⟨hC, hS, hH⟩ := id hI.1
  have hn1 := hS.1.1.1
  have hn2 := hS.1.1.2
  obtain ⟨c, hc, h3⟩ := hS.1.2.2.2.2.2.2.2.1
  exact ls_st hI (k5_share hC hS hH p q) (fun m' hX _ _ _ => m_share hX hn1 hn2)

theorem l_deadline (h : IV F X b L xs z0 n0 m) (k p q : Int32) : LSI G 4 uX5_deadline 3 uX6_deadline F X b L xs z0 n0 [.int k, .int p, .int q] m := by
  obtain ⟨o, YL, AN, kf, vf, n, s, nf, lf, r, a, hI⟩ := h
  obtain ⟨hC, hS, hH⟩ := id hI.1
  have hn1 := hS.1.1.1
  have hn2 := hS.1.1.2
  obtain ⟨c, hc, h3⟩ := hS.1.2.2.2.2.2.2.2.1
  exact ls_st hI (k5_deadline hC hS hH k p q) (fun m' hX _ _ _ => m_deadline hX hn1 hn2)

theorem l_processors (h : IV F X b L xs z0 n0 m) (p : Int32) : LSI G 4 uX5_processors 1 uX6_processors F X b L xs z0 n0 [.int p] m := by
  obtain ⟨o, YL, AN, kf, vf, n, s, nf, lf, r, a, hI⟩ := h
  obtain ⟨hC, hS, hH⟩ := id hI.1
  have hn1 := hS.1.1.1
  have hn2 := hS.1.1.2
  obtain ⟨c, hc, h3⟩ := hS.1.2.2.2.2.2.2.2.1
  exact ls_st hI (k5_processors hC hS hH p) (fun m' hX _ _ _ => m_processors hX)

theorem l_lock (h : IV F X b L xs z0 n0 m) (p : Int32) : LSI G 4 uX5_lock 1 uX6_lock F X b L xs z0 n0 [.int p] m := by
  obtain ⟨o, YL, AN, kf, vf, n, s, nf, lf, r, a, hI⟩ := h
  obtain ⟨hC, hS, hH⟩ := id hI.1
  have hn1 := hS.1.1.1
  have hn2 := hS.1.1.2
  obtain ⟨c, hc, h3⟩ := hS.1.2.2.2.2.2.2.2.1
  exact ls_st hI (k5_lock hC hS hH p) (fun m' hX _ _ _ => m_lock hX)

theorem l_ring (h : IV F X b L xs z0 n0 m) (p : Int32) : LSI G 4 uX5_ring 3 uX6_ring F X b L xs z0 n0 [.int p] m := by
  obtain ⟨o, YL, AN, kf, vf, n, s, nf, lf, r, a, hI⟩ := h
  obtain ⟨hC, hS, hH⟩ := id hI.1
  have hn1 := hS.1.1.1
  have hn2 := hS.1.1.2
  obtain ⟨c, hc, h3⟩ := hS.1.2.2.2.2.2.2.2.1
  exact ls_st hI (k5_ring hC hS hH p) (fun m' hX _ _ _ => m_ring hX hn1 hn2)

theorem l_run (h : IV F X b L xs z0 n0 m) (p : Int32) : LSI G 6 uX5_run 11 uX6_run F X b L xs z0 n0 [.int p] m := by
  obtain ⟨o, YL, AN, kf, vf, n, s, nf, lf, r, a, hI⟩ := h
  obtain ⟨hC, hS, hH⟩ := id hI.1
  have hn1 := hS.1.1.1
  have hn2 := hS.1.1.2
  obtain ⟨c, hc, h3⟩ := hS.1.2.2.2.2.2.2.2.1
  exact ls_st hI (k5_run hC hS hH lf p) (fun m' hX _ _ _ => m_run hX hS.1)

theorem l_chosen (h : IV F X b L xs z0 n0 m) (p : Int32) : LSI G 0 uX5_chosen 1 uX6_chosen F X b L xs z0 n0 [.int p] m := by
  obtain ⟨o, YL, AN, kf, vf, n, s, nf, lf, r, a, hI⟩ := h
  obtain ⟨hC, hS, hH⟩ := id hI.1
  have hn1 := hS.1.1.1
  have hn2 := hS.1.1.2
  obtain ⟨c, hc, h3⟩ := hS.1.2.2.2.2.2.2.2.1
  exact ls_q hI (k5_chosen hC hS hH p) (fun m' hX _ _ => m_chosen hX)

theorem l_about (h : IV F X b L xs z0 n0 m) (p q : Int32) : LSI G 2 uX5_about 2 uX6_about F X b L xs z0 n0 [.int p, .int q] m := by
  obtain ⟨o, YL, AN, kf, vf, n, s, nf, lf, r, a, hI⟩ := h
  obtain ⟨hC, hS, hH⟩ := id hI.1
  have hn1 := hS.1.1.1
  have hn2 := hS.1.1.2
  obtain ⟨c, hc, h3⟩ := hS.1.2.2.2.2.2.2.2.1
  exact ls_q hI (k5_about hC hS hH p q) (fun m' hX _ _ => m_about hX hn1 hn2)

theorem l_virtual (h : IV F X b L xs z0 n0 m) (p : Int32) : LSL G 1 uX5_virtual 2 uX6_virtual F X b L xs z0 n0 [.int p] m := by
  obtain ⟨o, YL, AN, kf, vf, n, s, nf, lf, r, a, hI⟩ := h
  obtain ⟨hC, hS, hH⟩ := id hI.1
  have hn1 := hS.1.1.1
  have hn2 := hS.1.1.2
  obtain ⟨c, hc, h3⟩ := hS.1.2.2.2.2.2.2.2.1
  exact ls_ql hI (k5_virtual hC hS hH p) (fun m' hX => m_virtual hX hn1 hn2)

theorem l_small (h : IV F X b L xs z0 n0 m) (p q : Int32) : LSI G 2 uX5_small 2 uX6_small F X b L xs z0 n0 [.int p, .int q] m := by
  obtain ⟨o, YL, AN, kf, vf, n, s, nf, lf, r, a, hI⟩ := h
  obtain ⟨hC, hS, hH⟩ := id hI.1
  have hn1 := hS.1.1.1
  have hn2 := hS.1.1.2
  obtain ⟨c, hc, h3⟩ := hS.1.2.2.2.2.2.2.2.1
  exact ls_q hI (k5_small hC hS hH p q) (fun m' hX _ _ => m_small hX hn1 hn2 hS.1.hm)

theorem l_standing (h : IV F X b L xs z0 n0 m) (p q : Int32) : LSL G 2 uX5_standing 6 uX6_standing F X b L xs z0 n0 [.int p, .int q] m := by
  obtain ⟨o, YL, AN, kf, vf, n, s, nf, lf, r, a, hI⟩ := h
  obtain ⟨hC, hS, hH⟩ := id hI.1
  have hn1 := hS.1.1.1
  have hn2 := hS.1.1.2
  obtain ⟨c, hc, h3⟩ := hS.1.2.2.2.2.2.2.2.1
  exact ls_ql hI (k5_standing hC hS hH p q) (fun m' hX => m_standing hX hn1 hn2 hS.1.ch)

theorem l_holder (h : IV F X b L xs z0 n0 m) (p : Int32) : LSI G 1 uX5_holder 1 uX6_holder F X b L xs z0 n0 [.int p] m := by
  obtain ⟨o, YL, AN, kf, vf, n, s, nf, lf, r, a, hI⟩ := h
  obtain ⟨hC, hS, hH⟩ := id hI.1
  have hn1 := hS.1.1.1
  have hn2 := hS.1.1.2
  obtain ⟨c, hc, h3⟩ := hS.1.2.2.2.2.2.2.2.1
  exact ls_q hI (k5_holder hC hS hH p) (fun m' hX _ _ => m_holder hX)

theorem l_ringed (h : IV F X b L xs z0 n0 m) (p : Int32) : LSI G 0 uX5_ringed 1 uX6_ringed F X b L xs z0 n0 [.int p] m := by
  obtain ⟨o, YL, AN, kf, vf, n, s, nf, lf, r, a, hI⟩ := h
  obtain ⟨hC, hS, hH⟩ := id hI.1
  have hn1 := hS.1.1.1
  have hn2 := hS.1.1.2
  obtain ⟨c, hc, h3⟩ := hS.1.2.2.2.2.2.2.2.1
  obtain ⟨hW, z, h0, hz, hG⟩ := id hS
  obtain ⟨c5, hc5, h5⟩ := hG.2.2.1
  exact ls_q hI (k5_ringed hC hS hH p) (fun m' hX _ _ => m_ringed hX h5 hc5)

theorem l_row (h : IV F X b L xs z0 n0 m) (p q : Int32) : LSI G 2 uX5_row 2 uX6_row F X b L xs z0 n0 [.int p, .int q] m := by
  obtain ⟨o, YL, AN, kf, vf, n, s, nf, lf, r, a, hI⟩ := h
  obtain ⟨hC, hS, hH⟩ := id hI.1
  have hn1 := hS.1.1.1
  have hn2 := hS.1.1.2
  obtain ⟨c, hc, h3⟩ := hS.1.2.2.2.2.2.2.2.1
  exact ls_q hI (k5_row hC hS hH p q) (fun m' hX _ _ => m_row hX h3 hc)

theorem l_forge (h : IV F X b L xs z0 n0 m) (k p q : Int32) : LSI G 2 uX5_forge 2 uX6_forge F X b L xs z0 n0 [.int k, .int p, .int q] m := by
  obtain ⟨o, YL, AN, kf, vf, n, s, nf, lf, r, a, hI⟩ := h
  obtain ⟨hC, hS, hH⟩ := id hI.1
  have hn1 := hS.1.1.1
  have hn2 := hS.1.1.2
  obtain ⟨c, hc, h3⟩ := hS.1.2.2.2.2.2.2.2.1
  exact ls_st hI (k5_forge hC hS hH k p q) (fun m' hX _ _ _ => m_forge hX h3 hc)

theorem l_checkedTo (h : IV F X b L xs z0 n0 m)  : LSI G 0 uX5_checkedTo 0 uX6_checkedTo F X b L xs z0 n0 [] m := by
  obtain ⟨o, YL, AN, kf, vf, n, s, nf, lf, r, a, hI⟩ := h
  obtain ⟨hC, hS, hH⟩ := id hI.1
  have hn1 := hS.1.1.1
  have hn2 := hS.1.1.2
  obtain ⟨c, hc, h3⟩ := hS.1.2.2.2.2.2.2.2.1
  exact ls_q hI (k5_checkedTo hC hS hH) (fun m' hX h1 h2 => by rw [← h2]; exact m_checkedTo hX)

theorem l_bound (h : IV F X b L xs z0 n0 m) (p : Int32) : LSL G 4 uX5_bound 6 uX6_bound F X b L xs z0 n0 [.int p] m := by
  obtain ⟨o, YL, AN, kf, vf, n, s, nf, lf, r, a, hI⟩ := h
  obtain ⟨hC, hS, hH⟩ := id hI.1
  have hn1 := hS.1.1.1
  have hn2 := hS.1.1.2
  obtain ⟨c, hc, h3⟩ := hS.1.2.2.2.2.2.2.2.1
  obtain ⟨P, hP1, hP4, hP⟩ := hS.1.2.2.2.2.2.2.2.2
  exact ls_ql hI (k5_bound hC hS hH p) (fun m' hX => m_bound hX hn1 hn2 hS.1.ch ⟨P, hP4, hP⟩)

theorem l_trace (h : IV F X b L xs z0 n0 m) (p : Int32) : LSI G 0 uX5_trace 1 uX6_trace F X b L xs z0 n0 [.int p] m := by
  obtain ⟨o, YL, AN, kf, vf, n, s, nf, lf, r, a, hI⟩ := h
  obtain ⟨hC, hS, hH⟩ := id hI.1
  have hn1 := hS.1.1.1
  have hn2 := hS.1.1.2
  obtain ⟨c, hc, h3⟩ := hS.1.2.2.2.2.2.2.2.1
  exact ls_q hI (k5_trace hC hS hH p) (fun m' hX _ _ => m_trace hX)

theorem l_count (h : IV F X b L xs z0 n0 m) (p : Int32) : LSI G 1 uX5_count 1 uX6_count F X b L xs z0 n0 [.int p] m := by
  obtain ⟨o, YL, AN, kf, vf, n, s, nf, lf, r, a, hI⟩ := h
  obtain ⟨hC, hS, hH⟩ := id hI.1
  have hn1 := hS.1.1.1
  have hn2 := hS.1.1.2
  obtain ⟨c, hc, h3⟩ := hS.1.2.2.2.2.2.2.2.1
  exact ls_q hI (k5_count hC hS hH p) (fun m' hX _ _ => m_count hX hn1 hn2)

theorem l_digest (h : IV F X b L xs z0 n0 m)  : LSL G 3 uX5_digest 3 uX6_digest F X b L xs z0 n0 [] m := by
  obtain ⟨o, YL, AN, kf, vf, n, s, nf, lf, r, a, hI⟩ := h
  obtain ⟨hC, hS, hH⟩ := id hI.1
  have hn1 := hS.1.1.1
  have hn2 := hS.1.1.2
  obtain ⟨c, hc, h3⟩ := hS.1.2.2.2.2.2.2.2.1
  exact ls_ql hI (k5_digest hC hS hH) (fun m' hX => m_digest hX hn1 hn2 h3 hc hS.1.hm)

theorem l_status (h : IV F X b L xs z0 n0 m)  : LSI G 0 uX5_status 0 uX6_status F X b L xs z0 n0 [] m := by
  obtain ⟨o, YL, AN, kf, vf, n, s, nf, lf, r, a, hI⟩ := h
  obtain ⟨hC, hS, hH⟩ := id hI.1
  have hn1 := hS.1.1.1
  have hn2 := hS.1.1.2
  obtain ⟨c, hc, h3⟩ := hS.1.2.2.2.2.2.2.2.1
  exact ls_q hI (k5_status hC hS hH) (fun m' hX h1 h2 => by rw [← h1]; exact m_status hX)

theorem l_load (h : IV F X b L xs z0 n0 m)  : LSI G 4 uX5_load 0 uX6_load F X b L xs z0 n0 [] m := by
  obtain ⟨o, YL, AN, kf, vf, n, s, nf, lf, r, a, hI⟩ := h
  obtain ⟨hC, hS, hH⟩ := id hI.1
  have hn1 := hS.1.1.1
  have hn2 := hS.1.1.2
  obtain ⟨c, hc, h3⟩ := hS.1.2.2.2.2.2.2.2.1
  rcases hI.2.2.2.2.2.1 with ⟨g1, g2⟩ | ⟨g1, q, g2⟩
  · exact ls_st hI (EvC.ex (t5_load0 hC g2) ⟨rfl, PM.ref hC hS hH _⟩) (fun m' hX e1 _ _ => m_load0 hX (e1.trans g1))
  · rcases hI.2.2.2.2.1 with ⟨k1, -⟩ | ⟨YK, AK, nk, sk, nfk, k1, k2, k3, -⟩
    · rw [k1] at g2
      cases g2
    · have E5 := (t5_load1 (G := G) hC k1 k2 k3).mono (Q' := fun r mm => r = some (.int (nI 1)) ∧ PM m o F YL AN mm (cpF (aI m X.2.2.2.1) kf 142000) (cpF (aL m X.2.2.2.2.1) vf 200) (nI 0)) (fun r m' h => ⟨h.1, h.2.cl (fun j hj => if_pos hj) (fun t ht => if_pos ht)⟩)
      exact ls_st hI E5 (fun m' hX e1 e2 e3 => by rw [← e2, ← e3]; exact m_load1 hX (e1.trans g1))

theorem l_check (h : IV F X b L xs z0 n0 m)  : LSI G 7 uX5_check 0 uX6_check F X b L xs z0 n0 [] m := by
  obtain ⟨o, YL, AN, kf, vf, n, s, nf, lf, r, a, hI⟩ := h
  obtain ⟨hC, hS, hH⟩ := id hI.1
  have hn1 := hS.1.1.1
  have hn2 := hS.1.1.2
  obtain ⟨c, hc, h3⟩ := hS.1.2.2.2.2.2.2.2.1
  obtain ⟨_, m1, ⟨rfl, o1, r1, hC1, fs, hP, h5, h6, hR1, ha, hz⟩, E⟩ := k5_check (G := G) hC hS hH hI.2.2.2.1
  obtain ⟨-, hR, ⟨i5, i6⟩, -, hK, hM, hSS, ⟨hA, hA'⟩⟩ := hI
  obtain ⟨⟨e1, e2, e3, e4, e5, e6⟩, hRF⟩ := hR.eq fs (fun c h1 h2 => by unfold SR Ow; omega)
  have hSS1 := hSS.un fs (by unfold SR Ow; omega)
  have E' := m_check (G := G) (kf := kf) (vf := vf) (lf := lf) hRF.1 h3 hc
  rw [rf_self hRF] at E'
  have hK1 : KP m1 o1 F (aI m X.2.2.2.1) (aL m X.2.2.2.2.1) a := hK.un fs (fun c hc => by unfold SR; unfold Ow at *; omega) (hP 103 (by omega)) (hP 104 (by omega))
  have hW : MW (sI m1 126 X.1 (ckT kf)) X := hRF.1
  have hW2 : MW (MM (sI m1 126 X.1 (ckT kf)) X (kf, vf, lf)) X := hW
  refine ⟨_, m1, _, E, E', rf_mid hRF hSS1, ?_⟩
  refine inv_rf (r := r1) (a := a) ⟨hC1, hS, hH⟩ hRF hR1 ?_ hSS1 ⟨?_, ?_⟩ (mm_fs (S' := (kf, vf, lf)) hRF rfl rfl rfl (fun q h1 h2 h3 _ _ h6 => (eqa_sI h1).tr (MM.eqa h2 h3 h6))) rfl rfl hW2 (mm_k hW _) (mm_v _ _ _) (mm_l _ _ _) ?_ ?_ ?_
  · rw [mm_kk hW, mm_vv hW]
    show KP m1 o1 F (aI m1 X.2.2.2.1) (aL m1 X.2.2.2.2.1) a
    rw [e4.2.2.2.1, e5.2.2.2.2.1]
    exact hK1
  · show nn m1 ≤ n0 + 300000 + pot YL.2.2.1 + AN.2.2 + r1 + a
    omega
  · show 16 * zz m1 ≤ 16 * z0 + 10000 + pot YL.2.2.1 + AN.2.2 + r1 + a
    omega
  · rw [h5, i5, ← e1.1 125]
    exact (gI_nf (m := m1) (f := 126) (a := X.1) (f' := 125) (a' := X.1) (x := ckT kf) (by omega)).symm
  · rw [h6]
    exact (u2_eq (gI m1) 126 X.1 (ckT kf)).symm
  · have e : gI (MM (sI m1 126 X.1 (ckT kf)) X (kf, vf, lf)) 124 X.1 = gI m1 124 X.1 := gI_nf (m := m1) (f := 126) (a := X.1) (f' := 124) (a' := X.1) (x := ckT kf) (by omega)
    rw [e, e1.1 124, hP 103 (by omega)]
    exact hM

theorem l_image (h : IV F X b L xs z0 n0 m)  : LSL G 4 uX5_image 4 uX6_image F X b L xs z0 n0 [] m := by
  obtain ⟨o, YL, AN, kf, vf, n, s, nf, lf, r, a, hI⟩ := h
  obtain ⟨hC, hS, hH⟩ := id hI.1
  have hn1 := hS.1.1.1
  have hn2 := hS.1.1.2
  obtain ⟨c, hc, h3⟩ := hS.1.2.2.2.2.2.2.2.1
  obtain ⟨_, m1, ⟨rfl, o1, a1, hC1, fs, hP, ⟨h5, h6⟩, hq, hK1, ha, hz⟩, E⟩ := k5_image (G := G) hC hS hH hI.2.2.2.2.1
  obtain ⟨-, hR, ⟨i5, i6⟩, hRP, -, hM, hSS, ⟨hA, hA'⟩⟩ := hI
  obtain ⟨⟨e1, e2, e3, e4, e5, e6⟩, hRF⟩ := hR.eq fs (fun c h1 h2 => by unfold SK Ow; omega)
  have hSS1 := hSS.un fs (by unfold SK Ow; omega)
  have E' := m_image (G := G) (kf := kf) (vf := vf) (lf := lf) hRF.1 hn1 hn2 h3 hc hS.1.hm
  rw [rf_self hRF] at E'
  have hR1 : RP m1 o1 F r := hRP.un fs (fun c hc => by unfold SK; unfold Ow at *; omega) (hP 102 (by omega) (by omega))
  have hW : MW (imgM m1 X kf vf) X := hRF.1
  have hW2 : MW (MM (imgM m1 X kf vf) X (kf, vf, lf)) X := hW
  have f1 : aI (imgM m1 X kf vf) X.2.2.2.1 = cpF kf (aI m1 X.2.2.2.1) 142000 := vu_eq _ _ _
  have f2 : aL (imgM m1 X kf vf) X.2.2.2.2.1 = cpF vf (aL m1 X.2.2.2.2.1) 200 := vu_eq _ _ _
  have f3 : gI (imgM m1 X kf vf) 124 X.1 = nI 1 := u2_eq (gI m1) 124 X.1 (nI 1)
  have f4 : ∀ f, f ≠ 124 → gI (imgM m1 X kf vf) f X.1 = gI m1 f X.1 := fun f hf => u2_nf (gI m1) (nI 1) hf
  have f5 : ∀ q, q ≠ X.1 → q ≠ X.2.2.2.1 → q ≠ X.2.2.2.2.1 → Eqa m1 (imgM m1 X kf vf) q := fun q h1 h2 h3 => ((eqa_sRI h2).tr (eqa_sRL h3)).tr (eqa_sI h1)
  have f6 : zz (imgM m1 X kf vf) = zz m1 ∧ nn (imgM m1 X kf vf) = nn m1 ∧ gT (imgM m1 X kf vf) = gT m1 ∧ gN (imgM m1 X kf vf) = gN m1 := ⟨rfl, rfl, rfl, rfl⟩
  generalize imgM m1 X kf vf = m3 at *
  obtain ⟨t1, t2, t3, t4⟩ := f6
  refine ⟨_, m1, _, E, E', rf_mid hRF hSS1, ?_⟩
  refine inv_rf (r := r) (a := a1) ⟨hC1, hS, hH⟩ hRF hR1 ?_ hSS1 ⟨?_, ?_⟩ (mm_fs (S' := (kf, vf, lf)) hRF t3 t4 t1 (fun q h1 h2 h3 h4 h5 h6 => (f5 q h1 h4 h5).tr (MM.eqa h2 h3 h6))) t2 t1 hW2 (mm_k hW _) (mm_v _ _ _) (mm_l _ _ _) ?_ ?_ (Or.inr ⟨f3, hq⟩)
  · rw [mm_kk hW, mm_vv hW, f1, f2]
    exact hK1.cl (fun j hj => if_pos hj) (fun t ht => if_pos ht)
  · show nn m1 ≤ n0 + 300000 + pot YL.2.2.1 + AN.2.2 + r + a1
    omega
  · show 16 * zz m1 ≤ 16 * z0 + 10000 + pot YL.2.2.1 + AN.2.2 + r + a1
    omega
  · rw [h5, i5, ← e1.1 125]
    exact (f4 125 (by omega)).symm
  · rw [h6, i6, ← e1.1 126]
    exact (f4 126 (by omega)).symm

end Law2
