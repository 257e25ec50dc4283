/-! a TICK and a run: the spec -/
def lt0 (lf : Nat → Int32) : Nat → Int32 := lp (fun t l => upd l t (nI 0)) 200 lf
def c4 (kf : KF) : KF := upd (upd (upd (upd kf (7 + 0) (-1)) (7 + 1) (-1)) (7 + 2) (-1)) (7 + 3) (-1)
def chS (vf : VF) (p : Nat) (s : KF × (Nat → Int32)) : KF × (Nat → Int32) := chF s.1 vf s.2 p
def tuS (p : Nat) (s : KF × VF) : KF × VF := if s.1 (7 + p) < 0 then s else tnF s.1 s.2 (s.1 (7 + p)).toNatClampNeg
def tc1 (kf : KF) (vf : VF) (lf : Nat → Int32) : KF × (Nat → Int32) := lp (chS vf) (kf 2).toNatClampNeg (c4 (wkF kf), lt0 lf)
def tc2 (kf : KF) (vf : VF) (lf : Nat → Int32) : KF × VF := lp tuS (kf 2).toNatClampNeg ((tc1 kf vf lf).1, vf)
def tcF (kf : KF) (vf : VF) (lf : Nat → Int32) : KF × VF × (Nat → Int32) := (upd (tc2 kf vf lf).1 0 ((tc2 kf vf lf).1 0 + nI 1), (tc2 kf vf lf).2, (tc1 kf vf lf).2)
theorem c4_at (kf : KF) {j : Nat} (h : j < 7 ∨ 11 ≤ j) : c4 kf j = kf j := by
  unfold c4
  rw [upd_ne _ _ (by omega), upd_ne _ _ (by omega), upd_ne _ _ (by omega), upd_ne _ _ (by omega)]
theorem c4_m (kf : KF) {q : Nat} (h : q < 4) : c4 kf (7 + q) = -1 := by
  rcases (show q = 0 ∨ q = 1 ∨ q = 2 ∨ q = 3 by omega) with rfl | rfl | rfl | rfl <;> simp [c4, upd]
theorem wf_c4 {kf : KF} {n : Nat} (h : WF kf n) : WF (c4 kf) n := wf_congr h (fun i hi => c4_at kf (by unfold rel at hi; omega))
theorem wf_3 {kf : KF} {n c : Nat} (h : WF kf n) (hc : c ≤ 8000) : WF (upd kf 3 (nI c)) n := by
  obtain ⟨⟨h1, h2⟩, hC, hV, ⟨ρ, hA⟩, hT, hL, hB, hR, hP⟩ := h
  have e : ∀ i, i ≠ 3 → upd kf 3 (nI c) i = kf i := fun i hi => upd_ne _ _ hi
  have g : ∀ j w, kg (upd kf 3 (nI c)) j w = kg kf j w := fun j w => e _ (by omega)
  refine ⟨⟨by rw [e 1 (by omega)]; exact h1, h2⟩, fun j hj q => ?_, fun l hl => ?_, ⟨ρ, fun j i l hj hi hl q1 q2 q3 => ?_⟩, fun j hj => ?_, fun p hp => ?_, fun i hi => ?_, ⟨c, hc, upd_eq _ _ _⟩, ?_⟩
  · rw [g] at q
    obtain ⟨l, hl, e7, i, hi, e8⟩ := hC j hj q
    exact ⟨l, hl, by rw [g]; exact e7, i, hi, by rw [e _ (by omega)]; exact e8⟩
  · rw [e _ (by omega)]
    exact hV l hl
  · rw [g] at q1 q2
    rw [e _ (by omega)] at q3
    exact hA j i l hj hi hl q1 q2 q3
  · unfold TK
    rw [g, g, g, g]
    exact hT j hj
  · rw [e _ (by omega)]
    exact hL p hp
  · rw [e _ (by omega)]
    exact hB i hi
  · rw [e _ (by omega)]
    exact hP
/-- between the choices of a tick: i processors have chosen -/
def CI (n c P i : Nat) (s : KF × (Nat → Int32)) : Prop := WF s.1 n ∧ s.1 2 = nI P ∧ (∃ c', c' ≤ c + i ∧ s.1 3 = nI c') ∧ ∀ q, q < 4 → s.1 (7 + q) = -1 ∨ (q < i ∧ ∃ b, b < n ∧ s.1 (7 + q) = nI b ∧ kg s.1 b 6 = 0 ∧ ¬ s.2 b = 0 ∧ ∀ q', q' < 4 → s.1 (7 + q') = nI b → q' = q)
theorem CI.step {vf : VF} {n c P i : Nat} {s : KF × (Nat → Int32)} (h : CI n c P i s) (hi : i < 4) (hc : c + i < 8000) : CI n c P (i + 1) (chS vf i s) := by
  obtain ⟨hW, h2, ⟨c', hc', h3⟩, hq⟩ := h
  obtain ⟨kf, lf⟩ := s
  dsimp only at hW h2 h3 hq
  have hn2 := hW.1.2
  show CI n c P (i + 1) (chF kf vf lf i)
  unfold chF
  rw [hW.nt]
  have hold : ∀ q, q < 4 → q ≠ i → ∀ x, upd kf (7 + i) x (7 + q) = kf (7 + q) := fun q _ z x => upd_ne _ _ (by omega)
  cases hp : pick kf vf (rdP kf lf) n with
  | none =>
    refine ⟨wf_upd hW (by unfold rel; omega), by dsimp only; rw [upd_ne _ _ (by omega)]; exact h2, ⟨c', by omega, by dsimp only; rw [upd_ne _ _ (by omega)]; exact h3⟩, fun q hq4 => ?_⟩
    dsimp only
    by_cases e : q = i
    · subst e
      exact Or.inl (upd_eq _ _ _)
    · rw [hold q hq4 e]
      rcases hq q hq4 with z | ⟨z1, b, hb, z2, z3, z4, z5⟩
      · exact Or.inl z
      · refine Or.inr ⟨by omega, b, hb, z2, ?_, z4, fun q' hq' z => ?_⟩
        · unfold kg
          rw [upd_ne _ _ (by omega)]
          exact z3
        · by_cases e' : q' = i
          · subst e'
            rw [upd_eq] at z
            have := nI_pos' (n := b) (by omega)
            rw [← z] at this
            exact absurd this (by decide)
          · rw [hold q' hq' e'] at z
            exact z5 q' hq' z
  | some b =>
    obtain ⟨hb, hbP⟩ := pick_lt hp
    have hb6 : kg kf b 6 = 0 := by simp [rdP] at hbP; exact hbP.1
    have hbl : lf b = 0 := by simp [rdP] at hbP; exact hbP.2
    dsimp only
    rw [h3, nI_clamp (show c' < 2 ^ 31 by omega)]
    have e : ∀ j, j < 62000 → j ≠ 3 → j ≠ 7 + i → upd (ptF (upd kf (7 + i) (nI b)) (5 * c') (upd kf (7 + i) (nI b) 0) (nI i) (nI b) (cls (upd kf (7 + i) (nI b)) (stnd kf vf b)) (key (upd kf (7 + i) (nI b)) vf (stnd kf vf b)).toInt32) 3 (nI (c' + 1)) j = kf j := fun j hj h3' h7 => by rw [upd_ne _ _ h3', ptF_at _ _ _ _ _ _ _ hj, upd_ne _ _ h7]
    have ei : upd (ptF (upd kf (7 + i) (nI b)) (5 * c') (upd kf (7 + i) (nI b) 0) (nI i) (nI b) (cls (upd kf (7 + i) (nI b)) (stnd kf vf b)) (key (upd kf (7 + i) (nI b)) vf (stnd kf vf b)).toInt32) 3 (nI (c' + 1)) (7 + i) = nI b := by rw [upd_ne _ _ (by omega), ptF_at _ _ _ _ _ _ _ (by omega), upd_eq]
    have hW' : WF (upd (ptF (upd kf (7 + i) (nI b)) (5 * c') (upd kf (7 + i) (nI b) 0) (nI i) (nI b) (cls (upd kf (7 + i) (nI b)) (stnd kf vf b)) (key (upd kf (7 + i) (nI b)) vf (stnd kf vf b)).toInt32) 3 (nI (c' + 1))) n := wf_3 (wf_congr (wf_upd hW (k := 7 + i) (x := nI b) (by unfold rel; omega)) (fun j hj => ptF_at _ _ _ _ _ _ _ (by unfold rel at hj; rcases hj with h | h | h | h | h | ⟨_, _, _, _, h⟩ <;> omega))) (by omega)
    have e3 : upd (ptF (upd kf (7 + i) (nI b)) (5 * c') (upd kf (7 + i) (nI b) 0) (nI i) (nI b) (cls (upd kf (7 + i) (nI b)) (stnd kf vf b)) (key (upd kf (7 + i) (nI b)) vf (stnd kf vf b)).toInt32) 3 (nI (c' + 1)) 3 = nI (c' + 1) := upd_eq _ _ _
    generalize upd (ptF (upd kf (7 + i) (nI b)) (5 * c') (upd kf (7 + i) (nI b) 0) (nI i) (nI b) (cls (upd kf (7 + i) (nI b)) (stnd kf vf b)) (key (upd kf (7 + i) (nI b)) vf (stnd kf vf b)).toInt32) 3 (nI (c' + 1)) = K at e ei hW' e3 ⊢
    refine ⟨hW', (e 2 (by omega) (by omega) (by omega)).trans h2, ⟨c' + 1, by omega, e3⟩, fun q hq4 => ?_⟩
    dsimp only
    by_cases eq : q = i
    · subst eq
      refine Or.inr ⟨by omega, b, hb, ei, (e _ (by omega) (by omega) (by omega)).trans hb6, by rw [upd_eq]; decide, fun q' hq' z => ?_⟩
      by_cases e' : q' = q
      · exact e'
      · rw [e (7 + q') (by omega) (by omega) (by omega)] at z
        rcases hq q' hq' with y | ⟨y1, b', hb', y2, y3, y4, y5⟩
        · rw [y] at z
          have := nI_pos' (n := b) (by omega)
          rw [← z] at this
          exact absurd this (by decide)
        · have : b' = b := (nI_eq (by omega) (by omega)).mp (y2.symm.trans z)
          subst this
          exact absurd hbl y4
    · rw [e (7 + q) (by omega) (by omega) (by omega)]
      rcases hq q hq4 with z | ⟨z1, b', hb', z2, z3, z4, z5⟩
      · exact Or.inl z
      · have hne : b' ≠ b := fun z => z4 (z ▸ hbl)
        refine Or.inr ⟨by omega, b', hb', z2, (e _ (by omega) (by omega) (by omega)).trans z3, by rw [upd_ne _ _ hne]; exact z4, fun q' hq' z => ?_⟩
        by_cases e' : q' = i
        · subst e'
          rw [ei] at z
          exact absurd ((nI_eq (by omega) (by omega)).mp z).symm hne
        · rw [e (7 + q') (by omega) (by omega) (by omega)] at z
          exact z5 q' hq' z
theorem CI.all {vf : VF} {n c P : Nat} {s : KF × (Nat → Int32)} (h : CI n c P 0 s) (hc : c + 4 ≤ 8000) : ∀ i, i ≤ 4 → CI n c P i (lp (chS vf) i s) := by
  intro i
  induction i with
  | zero => intro _; exact h
  | succ i ih => intro hi; exact (ih (by omega)).step (by omega) (by omega)
/-- between the turns of a tick: i of those chosen have run -/
def UI (k0 : KF) (n c P i : Nat) (s : KF × VF) : Prop := (∃ n', n ≤ n' ∧ WF s.1 n') ∧ s.1 2 = nI P ∧ s.1 3 = k0 3 ∧ s.1 0 = k0 0 ∧ ∀ q, q < 4 → s.1 (7 + q) = k0 (7 + q) ∧ (i ≤ q → ∀ b, b < n → k0 (7 + q) = nI b → kg s.1 b 6 = 0)
theorem UI.step {k0 : KF} {lf : Nat → Int32} {n c P i : Nat} {s : KF × VF} (hC : CI n c P 4 (k0, lf)) (h : UI k0 n c P i s) (hi : i < 4) : UI k0 n c P (i + 1) (tuS i s) := by
  obtain ⟨⟨n', hn', hW⟩, h2, h3, h0, hq⟩ := h
  obtain ⟨hW0, -, -, hq0⟩ := hC
  dsimp only at hq0 hW0
  have hn2 := hW.1.2
  unfold tuS
  rw [(hq i hi).1]
  split
  · exact ⟨⟨n', hn', hW⟩, h2, h3, h0, fun q hq4 => ⟨(hq q hq4).1, fun hiq => (hq q hq4).2 (by omega)⟩⟩
  · rename_i hneg
    rcases hq0 i hi with z | ⟨-, b, hb, z2, z3, z4, z5⟩
    · exact absurd (by rw [z]; decide) hneg
    · rw [z2, nI_clamp (show b < 2 ^ 31 by omega)]
      have hb6 := (hq i hi).2 (Nat.le_refl _) b hb z2
      obtain ⟨⟨p1, p2⟩, n2, hn2', w2⟩ := pw_tn (vf := s.2) hW (show b < n' by omega) hb6
      refine ⟨⟨n2, by omega, w2⟩, (p1 2 (by unfold SL; omega)).trans h2, (p1 3 (by unfold SL; omega)).trans h3, (p1 0 (by unfold SL; omega)).trans h0, fun q hq4 => ⟨(p1 (7 + q) (by unfold SL; omega)).trans (hq q hq4).1, fun hiq b' hb' zb => ?_⟩⟩
      have hne : b' ≠ b := fun e => by
        subst e
        have := z5 q hq4 zb
        omega
      exact p2 b' (by omega) hne ((hq q hq4).2 (by omega) b' hb' zb)
theorem UI.all {k0 : KF} {lf : Nat → Int32} {n c P : Nat} {vf : VF} (hC : CI n c P 4 (k0, lf)) : ∀ i, i ≤ 4 → UI k0 n c P i (lp tuS i (k0, vf)) := by
  intro i
  induction i with
  | zero =>
    intro _
    obtain ⟨hW0, h2, -, hq0⟩ := hC
    dsimp only at hq0 hW0 h2
    have hn2 := hW0.1.2
    refine ⟨⟨n, Nat.le_refl _, hW0⟩, h2, rfl, rfl, fun q hq4 => ⟨rfl, fun _ b hb z => ?_⟩⟩
    rcases hq0 q hq4 with y | ⟨-, b', hb', y2, y3, -⟩
    · rw [y] at z
      have := nI_pos' (n := b) (by omega)
      rw [← z] at this
      exact absurd this (by decide)
    · have : b' = b := (nI_eq (by omega) (by omega)).mp (y2.symm.trans z)
      subst this
      exact y3
  | succ i ih => intro hi; exact (ih (by omega)).step hC (by omega)
/-- where fewer than P have chosen nobody else is chosen -/
theorem CI.up {n c P i : Nat} {s : KF × (Nat → Int32)} (h : CI n c P i s) (hi : i ≤ 4) : CI n c P 4 s := by
  obtain ⟨h1, h2, ⟨c', h3, h4⟩, h5⟩ := h
  refine ⟨h1, h2, ⟨c', by omega, h4⟩, fun q hq => ?_⟩
  rcases h5 q hq with z | ⟨z1, z2⟩
  · exact Or.inl z
  · exact Or.inr ⟨by omega, z2⟩
theorem wf_wkF {kf : KF} {n : Nat} (h : WF kf n) : WF (wkF kf) n := by
  unfold wkF
  rw [h.nt]
  exact wf_wk h n (Nat.le_refl _)
theorem wk_lo {c : Int32} {k : KF} {u j : Nat} (hj : j < 220) : wkS c u k j = k j := by
  have r1 : ∀ k', rdy k' u j = k' j := fun k' => rdy_at _ _ _ (by omega) (by omega) (by omega)
  unfold wkS
  split
  · rfl
  · have e1 : wk1 c u k j = k j := by
      unfold wk1
      split
      · exact r1 k
      · rfl
    unfold wk2
    split
    · rw [k_bd _ _ _ (by omega), ks_at _ _ _ _ _ (by omega), ks_at _ _ _ _ _ (by omega)]
      exact e1
    · exact e1
theorem wkF_lo {kf : KF} {j : Nat} (hj : j < 220) : wkF kf j = kf j := by
  unfold wkF
  generalize nT kf = n
  induction n with
  | zero => rfl
  | succ n ih => exact (wk_lo hj).trans ih
theorem tc_ci {kf : KF} {lf : Nat → Int32} {n c P : Nat} (h : WF kf n) (hP : kf 2 = nI P) (hr : kf 3 = nI c) : CI n c P 0 (c4 (wkF kf), lt0 lf) :=
  ⟨wf_c4 (wf_wkF h), by dsimp only; rw [c4_at _ (by omega), wkF_lo (by omega)]; exact hP, ⟨c, by omega, by dsimp only; rw [c4_at _ (by omega), wkF_lo (by omega)]; exact hr⟩, fun q hq => Or.inl (c4_m _ hq)⟩
/-- a state behind a tick -/
theorem wf_tc {kf : KF} {vf : VF} {lf : Nat → Int32} {n c : Nat} (h : WF kf n) (hr : kf 3 = nI c) (hc : c + 4 ≤ 8000) : ∃ n', n ≤ n' ∧ WF (tcF kf vf lf).1 n' := by
  obtain ⟨P, hP1, hP4, hP⟩ := h.2.2.2.2.2.2.2.2
  have hCI : CI n c P 4 ((tc1 kf vf lf).1, (tc1 kf vf lf).2) := by
    show CI n c P 4 (tc1 kf vf lf)
    rw [tc1, hP, nI_clamp (show P < 2 ^ 31 by omega)]
    exact ((tc_ci (lf := lf) h hP hr).all (by omega) P hP4).up hP4
  have hU := UI.all (vf := vf) (k0 := (tc1 kf vf lf).1) hCI P hP4
  obtain ⟨⟨n', hn', hW⟩, -⟩ := hU
  refine ⟨n', hn', ?_⟩
  show WF (upd (tc2 kf vf lf).1 0 _) n'
  refine wf_upd ?_ (by unfold rel; omega)
  rw [tc2, hP, nI_clamp (show P < 2 ^ 31 by omega)]
  exact hW
/-- up to f ticks -/
def rnL : Nat → KF × VF × (Nat → Int32) → Nat → (KF × VF × (Nat → Int32)) × Nat
  | 0, s, d => (s, d)
  | f + 1, s, d => if (s.1 3).toNatClampNeg + 4 ≤ 8000 then rnL f (tcF s.1 s.2.1 s.2.2) (d + 1) else (s, d)
def whyRun (n : Int32) : Int32 := if inI n (nI 0) (nI 1000) then nI 0 else nI 1
def runF (kf : KF) (vf : VF) (lf : Nat → Int32) (n : Int32) : (KF × VF × (Nat → Int32)) × Nat := rnL n.toNatClampNeg (rfK kf (whyRun n), vf, lf) 0
def runS (kf : KF) (vf : VF) (lf : Nat → Int32) (n : Int32) : KF × VF × (Nat → Int32) := if rfB kf (whyRun n) then (rfK kf (whyRun n), vf, lf) else (runF kf vf lf n).1
def runR (kf : KF) (vf : VF) (lf : Nat → Int32) (n : Int32) : Int32 := if rfB kf (whyRun n) then -1 else nI (runF kf vf lf n).2
theorem rn_t {f d : Nat} {s : KF × VF × (Nat → Int32)} (h : (s.1 3).toNatClampNeg + 4 ≤ 8000) : rnL (f + 1) s d = rnL f (tcF s.1 s.2.1 s.2.2) (d + 1) := if_pos h
theorem rn_f {f d : Nat} {s : KF × VF × (Nat → Int32)} (h : ¬ (s.1 3).toNatClampNeg + 4 ≤ 8000) : rnL (f + 1) s d = (s, d) := if_neg h
theorem wf_rfK {kf : KF} {n : Nat} {w : Int32} (h : WF kf n) : WF (rfK kf w) n := by
  unfold rfK
  split
  · exact wf_upd h (by unfold rel; omega)
  · exact h
theorem mm_rn {m : Mem} {X : XX} {a b : (KF × VF × (Nat → Int32)) × Nat} {mF : Mem} {r : Option Value} (h : MM m X (a.1.1, a.1.2.1, a.1.2.2) = mF ∧ r = some (.int (nI a.2))) (e : a = b) : MM m X (b.1.1, b.1.2.1, b.1.2.2) = mF ∧ r = some (.int (nI b.2)) := e ▸ h
