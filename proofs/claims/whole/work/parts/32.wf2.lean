/-! locks keep a state well formed -/
theorem kg_hold (kf : KF) (l : Nat) (x : Int32) (hl : l < 100) (j w : Nat) : kg (upd kf (240 + l) x) j w = kg kf j w := upd_ne _ _ (by omega)
/-- what changes when a lock gets a holder b, who is ready then, out of those who wait for it (or anyone if none waits) -/
theorem wf_pass {kf : KF} {n l b : Nat} (h : WF kf n) (hl : l < 100) (hb : b < n) : WF (rdy (upd kf (240 + l) (nI b)) b) n := by
  obtain ⟨⟨h1, h2⟩, hC, hV, ⟨ρ, hA⟩, hT, hL, hB, hR, hP⟩ := h
  have e : ∀ i, i ≠ 240 + l → i ≠ 400 + 20 * b + 6 → i ≠ 400 + 20 * b + 7 → i ≠ 400 + 20 * b + 8 → rdy (upd kf (240 + l) (nI b)) b i = kf i := fun i q h6 h7 h8 => by rw [rdy_at _ _ _ h6 h7 h8, upd_ne _ _ q]
  have g : ∀ j w, w < 20 → (j ≠ b ∨ w < 6 ∨ 8 < w) → kg (rdy (upd kf (240 + l) (nI b)) b) j w = kg kf j w := fun j w hw hj => e _ (by omega) (by omega) (by omega) (by omega)
  have gl : rdy (upd kf (240 + l) (nI b)) b (240 + l) = nI b := by rw [rdy_at _ _ _ (by omega) (by omega) (by omega), upd_eq]
  have go : ∀ q, q < 100 → q ≠ l → rdy (upd kf (240 + l) (nI b)) b (240 + q) = kf (240 + q) := fun q hq z => e _ (by omega) (by omega) (by omega) (by omega)
  have ne : ∀ j, kg (rdy (upd kf (240 + l) (nI b)) b) j 6 = 1 → j ≠ b := fun j q z => by
    rw [z, rdy_6] at q
    exact absurd q (by decide)
  refine ⟨⟨by rw [e 1 (by omega) (by omega) (by omega) (by omega)]; exact h1, h2⟩, fun j hj q => ?_, fun q hq => ?_, ⟨fun x => if x = b then 0 else ρ x + 1, fun j i q hj hi hq q1 q2 q3 => ?_⟩, fun j hj => ?_, fun p hp => ?_, fun i hi => ?_, ?_, ?_⟩
  · have z := ne j q
    rw [g j 6 (by omega) (Or.inl z)] at q
    obtain ⟨q', hq', e7, i, hi, e8⟩ := hC j hj q
    refine ⟨q', hq', by rw [g j 7 (by omega) (Or.inl z)]; exact e7, ?_⟩
    by_cases hh : q' = l
    · subst hh
      exact ⟨b, hb, gl⟩
    · exact ⟨i, hi, by rw [go q' hq' hh]; exact e8⟩
  · by_cases hh : q = l
    · subst hh
      exact Or.inr ⟨b, hb, gl⟩
    · rw [go q hq hh]
      exact hV q hq
  · have z := ne j q1
    rw [g j 6 (by omega) (Or.inl z)] at q1
    rw [g j 7 (by omega) (Or.inl z)] at q2
    show (if i = b then 0 else ρ i + 1) < (if j = b then 0 else ρ j + 1)
    rw [if_neg z]
    by_cases hh : q = l
    · subst hh
      rw [gl] at q3
      rw [if_pos ((nI_eq (by omega) (by omega)).mp q3.symm)]
      omega
    · rw [go q hq hh] at q3
      have := hA j i q hj hi hq q1 q2 q3
      split <;> omega
  · unfold TK
    rw [g j 1 (by omega) (by omega), g j 2 (by omega) (by omega), g j 5 (by omega) (by omega), g j 14 (by omega) (by omega)]
    exact hT j hj
  · rw [e (340 + p) (by omega) (by omega) (by omega) (by omega)]
    exact hL p hp
  · rw [e (30000 + i) (by omega) (by omega) (by omega) (by omega)]
    exact hB i hi
  · rw [e 3 (by omega) (by omega) (by omega) (by omega)]
    exact hR
  · rw [e 2 (by omega) (by omega) (by omega) (by omega)]
    exact hP
/-- a holder's place is written while nobody waits for that lock -/
theorem wf_hold {kf : KF} {n l : Nat} {x : Int32} (h : WF kf n) (hl : l < 100) (hx : x < 0 ∨ ∃ i, i < n ∧ x = nI i) (hw : ∀ j, j < n → kg kf j 6 = 1 → ¬ kg kf j 7 = nI l) : WF (upd kf (240 + l) x) n := by
  obtain ⟨⟨h1, h2⟩, hC, hV, ⟨ρ, hA⟩, hT, hL, hB, hR, hP⟩ := h
  have e : ∀ i, i ≠ 240 + l → upd kf (240 + l) x i = kf i := fun i q => upd_ne _ _ q
  have g := kg_hold kf l x hl
  refine ⟨⟨by rw [e 1 (by omega)]; exact h1, h2⟩, fun j hj q => ?_, fun q hq => ?_, ⟨ρ, fun j i q hj hi hq q1 q2 q3 => ?_⟩, fun j hj => ?_, fun p hp => ?_, fun i hi => ?_, ?_, ?_⟩
  · rw [g] at q
    obtain ⟨q', hq', e7, i, hi, e8⟩ := hC j hj q
    have hh : q' ≠ l := fun z => hw j hj q (z ▸ e7)
    exact ⟨q', hq', by rw [g]; exact e7, i, hi, by rw [e _ (by omega)]; exact e8⟩
  · by_cases hh : q = l
    · subst hh
      rw [upd_eq]
      exact hx
    · rw [e _ (by omega)]
      exact hV q hq
  · rw [g] at q1 q2
    have hh : q ≠ l := fun z => hw j hj q1 (z ▸ q2)
    rw [e _ (by omega)] at q3
    exact hA j i q hj hi hq q1 q2 q3
  · unfold TK
    rw [g, g, g, g]
    exact hT j hj
  · rw [e (340 + p) (by omega)]
    exact hL p hp
  · rw [e (30000 + i) (by omega)]
    exact hB i hi
  · rw [e 3 (by omega)]
    exact hR
  · rw [e 2 (by omega)]
    exact hP
theorem upd_upd (f : Nat → Int32) (k : Nat) (x y : Int32) : upd (upd f k x) k y = upd f k y := by
  funext j
  by_cases h : j = k <;> simp [upd, h]
theorem pick_none {kf : KF} {vf : VF} {P : Nat → Bool} : ∀ {n : Nat}, pick kf vf P n = none → ∀ u, u < n → P u = false := by
  intro n
  induction n with
  | zero => intro _ u hu; exact absurd hu (Nat.not_lt_zero _)
  | succ n ih =>
    intro h u hu
    have h' : pkS kf vf P n (pick kf vf P n) = none := h
    unfold pkS at h'
    split at h'
    · cases hq : pick kf vf P n with
      | none =>
        rw [hq] at h'
        cases h'
      | some c =>
        rw [hq] at h'
        dsimp only at h'
        split at h' <;> cases h'
    · rename_i hp
      rcases Nat.lt_succ_iff_lt_or_eq.mp hu with q | q
      · exact ih h' u q
      · subst q
        exact Bool.eq_false_iff.mpr hp
/-- psF sees lock l only through those who wait for it -/
theorem wf_ps {kf : KF} {vf : VF} {n l : Nat} (h : WF kf n) (hl : l < 100) : WF (psF (upd kf (240 + l) (-1)) vf l) n := by
  have hnt : nT (upd kf (240 + l) (-1)) = n := nT_of (by rw [upd_ne _ _ (by omega)]; exact h.1.1) h.1.2
  unfold psF
  rw [hnt]
  have hP : ∀ u, wtP (upd kf (240 + l) (-1)) l u = wtP kf l u := fun u => by
    unfold wtP
    rw [kg_hold _ _ _ hl, kg_hold _ _ _ hl]
  cases hp : pick (upd kf (240 + l) (-1)) vf (wtP (upd kf (240 + l) (-1)) l) n with
  | none =>
    dsimp only
    rw [upd_upd]
    refine wf_hold h hl (Or.inl (by decide)) (fun j hj q z => ?_)
    have := pick_none hp j hj
    rw [hP] at this
    simp [wtP, q, z] at this
  | some b =>
    dsimp only
    rw [upd_upd]
    have hb := (pick_lt hp).1
    exact wf_bd (wf_pass h hl hb) (by split <;> decide)
