/-! new tasks, what comes of bytes -/
theorem lpz_at (kf : KF) (t i : Nat) : ∀ c, c ≤ 20 → (i < 400 + 20 * t ∨ 400 + 20 * t + 20 ≤ i) → lp (fun w k => ks k t w (nI 0)) c kf i = kf i := by
  intro c
  induction c with
  | zero => intro _ _; rfl
  | succ c ih =>
    intro hc hi
    show ks (lp (fun w k => ks k t w (nI 0)) c kf) t c (nI 0) i = kf i
    unfold ks
    rw [upd_ne _ _ (by omega)]
    exact ih (by omega) hi
theorem lpz_kg (kf : KF) (t w : Nat) : ∀ c, w < c → kg (lp (fun w k => ks k t w (nI 0)) c kf) t w = nI 0 := by
  intro c
  induction c with
  | zero => intro h; exact absurd h (Nat.not_lt_zero _)
  | succ c ih =>
    intro h
    show kg (ks (lp (fun w k => ks k t w (nI 0)) c kf) t c (nI 0)) t w = nI 0
    by_cases e : w = c
    · subst e
      exact kg_eq _ _ _ _
    · unfold kg ks
      rw [upd_ne _ _ (by omega)]
      exact ih (by omega)
theorem ks_at (kf : KF) (t w i : Nat) (x : Int32) (h : i ≠ 400 + 20 * t + w) : ks kf t w x i = kf i := upd_ne _ _ h
theorem adK_at (kf : KF) (t : Nat) (a b c p q : Int32) (i : Nat) (hi : i < 400 + 20 * t ∨ 400 + 20 * t + 20 ≤ i) (h1 : i ≠ 1) : adK kf t a b c p q i = kf i := by
  unfold adK
  try dsimp only
  rw [ks_at _ _ _ _ _ (by omega), ks_at _ _ _ _ _ (by omega), ks_at _ _ _ _ _ (by omega), ks_at _ _ _ _ _ (by omega), ks_at _ _ _ _ _ (by omega), ks_at _ _ _ _ _ (by omega), ks_at _ _ _ _ _ (by omega), ks_at _ _ _ _ _ (by omega), ks_at _ _ _ _ _ (by omega), ks_at _ _ _ _ _ (by omega), lpz_at _ _ _ 20 (by omega) hi, upd_ne _ _ h1]
theorem adK_1 (kf : KF) (t : Nat) (a b c p q : Int32) : adK kf t a b c p q 1 = nI (t + 1) := by
  unfold adK
  try dsimp only
  rw [ks_at _ _ _ _ _ (by omega), ks_at _ _ _ _ _ (by omega), ks_at _ _ _ _ _ (by omega), ks_at _ _ _ _ _ (by omega), ks_at _ _ _ _ _ (by omega), ks_at _ _ _ _ _ (by omega), ks_at _ _ _ _ _ (by omega), ks_at _ _ _ _ _ (by omega), ks_at _ _ _ _ _ (by omega), ks_at _ _ _ _ _ (by omega), lpz_at _ _ _ 20 (by omega) (by omega), upd_eq]
theorem adK_kg (kf : KF) (t : Nat) (a b c p q : Int32) : kg (adK kf t a b c p q) t 0 = a ∧ kg (adK kf t a b c p q) t 1 = b ∧ kg (adK kf t a b c p q) t 2 = c ∧ kg (adK kf t a b c p q) t 3 = nI 0 ∧ kg (adK kf t a b c p q) t 4 = nI 0 ∧ kg (adK kf t a b c p q) t 5 = nI 0 ∧ kg (adK kf t a b c p q) t 6 = nI 0 ∧ kg (adK kf t a b c p q) t 7 = -1 ∧ kg (adK kf t a b c p q) t 8 = -1 ∧ kg (adK kf t a b c p q) t 9 = nI 0 ∧ kg (adK kf t a b c p q) t 10 = p ∧ kg (adK kf t a b c p q) t 11 = q ∧ kg (adK kf t a b c p q) t 12 = kf 0 + p ∧ kg (adK kf t a b c p q) t 13 = q ∧ kg (adK kf t a b c p q) t 14 = -1 := by
  have z : ∀ w, w < 20 → kg (lp (fun w k => ks k t w (nI 0)) 20 (upd kf 1 (nI (t + 1)))) t w = nI 0 := fun w hw => lpz_kg _ _ _ 20 hw
  have e0 : ks (ks (ks (ks (ks (ks (ks (ks (lp (fun w k => ks k t w (nI 0)) 20 (upd kf 1 (nI (t + 1)))) t 0 a) t 1 b) t 2 c) t 7 (-1)) t 8 (-1)) t 14 (-1)) t 10 p) t 11 q 0 = kf 0 := by
    rw [ks_at _ _ _ _ _ (by omega), ks_at _ _ _ _ _ (by omega), ks_at _ _ _ _ _ (by omega), ks_at _ _ _ _ _ (by omega), ks_at _ _ _ _ _ (by omega), ks_at _ _ _ _ _ (by omega), ks_at _ _ _ _ _ (by omega), ks_at _ _ _ _ _ (by omega), lpz_at _ _ _ 20 (by omega) (by omega), upd_ne _ _ (by omega)]
  unfold adK
  try dsimp only
  rw [e0]
  simp [kg_eq, kg_ne, z]
theorem wf_ad {kf : KF} {n : Nat} {a b c p q : Int32} (h : WF kf n) (hn : n < 200) (hb : ∃ k, k < 32 ∧ b = nI k) (hc : ∃ s, 1 ≤ s ∧ s ≤ 1000 ∧ c = nI s) : WF (adK kf n a b c p q) (n + 1) := by
  obtain ⟨⟨h1, h2⟩, hC, hV, ⟨ρ, hA⟩, hT, hL, hB, hR, hP⟩ := h
  have e : ∀ i, (i < 400 + 20 * n ∨ 400 + 20 * n + 20 ≤ i) → i ≠ 1 → adK kf n a b c p q i = kf i := fun i hi q => adK_at kf n a b c p _ i hi q
  have g : ∀ j w, j ≠ n → w < 20 → kg (adK kf n a b c p q) j w = kg kf j w := fun j w hj hw => e _ (by omega) (by omega)
  obtain ⟨-, k1, k2, -, -, k5, k6, -, -, -, -, -, -, -, k14⟩ := adK_kg kf n a b c p q
  have ne : ∀ j, kg (adK kf n a b c p q) j 6 = 1 → j ≠ n := fun j q z => by
    rw [z, k6] at q
    exact absurd q (by decide)
  refine ⟨⟨adK_1 _ _ _ _ _ _ _, hn⟩, fun j hj q => ?_, fun l hl => ?_, ⟨ρ, fun j i l hj hi hl q1 q2 q3 => ?_⟩, fun j hj => ?_, fun p hp => ?_, fun i hi => ?_, ?_, ?_⟩
  · have z := ne j q
    rw [g j 6 z (by omega)] at q
    obtain ⟨l, hl, e7, i, hi, e8⟩ := hC j (by omega) q
    exact ⟨l, hl, by rw [g j 7 z (by omega)]; exact e7, i, by omega, by rw [e _ (by omega) (by omega)]; exact e8⟩
  · rw [e _ (by omega) (by omega)]
    rcases hV l hl with q | ⟨i, hi, q⟩
    · exact Or.inl q
    · exact Or.inr ⟨i, by omega, q⟩
  · have z := ne j q1
    rw [g j 6 z (by omega)] at q1
    rw [g j 7 z (by omega)] at q2
    rw [e _ (by omega) (by omega)] at q3
    obtain ⟨l', hl', e7, i', hi', e8⟩ := hC j (by omega) q1
    have hll : l' = l := (nI_eq (by omega) (by omega)).mp (e7.symm.trans q2)
    subst hll
    have hii : i' = i := (nI_eq (by omega) (by omega)).mp (e8.symm.trans q3)
    subst hii
    exact hA j i' l' (by omega) hi' hl q1 q2 q3
  · by_cases hjn : j = n
    · subst hjn
      refine ⟨?_, ?_, ⟨0, by omega, k5⟩, Or.inl k14⟩
      · obtain ⟨k, hk, e⟩ := hb
        exact ⟨k, hk, k1.trans e⟩
      · obtain ⟨s, hs1, hs2, e⟩ := hc
        exact ⟨s, hs1, hs2, k2.trans e⟩
    · unfold TK
      rw [g j 1 hjn (by omega), g j 2 hjn (by omega), g j 5 hjn (by omega), g j 14 hjn (by omega)]
      exact hT j (by omega)
  · rw [e (340 + p) (by omega) (by omega)]
    exact hL p hp
  · rw [e (30000 + i) (by omega) (by omega)]
    exact hB i hi
  · rw [e 3 (by omega) (by omega)]
    exact hR
  · rw [e 2 (by omega) (by omega)]
    exact hP
