/-! an ACT keeps a state well formed; what it leaves of the acting task -/
theorem ks_oth (kf : KF) (t w s v : Nat) (x : Int32) (hw : w < 20) (hv : v < 20) (h : s ≠ t ∨ v ≠ w) : kg (ks kf t w x) s v = kg kf s v := by
  unfold kg ks
  exact upd_ne _ _ (by omega)
theorem rdy_oth (kf : KF) (t s v : Nat) (hv : v < 20) (h : s ≠ t ∨ v < 6 ∨ 8 < v) : kg (rdy kf t) s v = kg kf s v := rdy_at kf t _ (by omega) (by omega) (by omega)
theorem wts_oth (kf : KF) (t s v : Nat) (a b c : Int32) (hv : v < 20) (h : s ≠ t ∨ v < 6 ∨ 8 < v) : kg (wts kf t a b c) s v = kg kf s v := wts_at kf t _ a b c (by omega) (by omega) (by omega) (by omega)
theorem wf_wts {kf : KF} {n t : Nat} {a b c : Int32} (h : WF kf n) (ht : t < n) (ha : ¬ a = 1) : WF (wts kf t a b c) n := by
  have h1 : WF (ks (ks (ks kf t 6 a) t 7 b) t 8 c) n := wf_st h ht (by
    rw [kg_ne _ _ _ _ _ _ (by decide) (by decide) (by decide), kg_ne _ _ _ _ _ _ (by decide) (by decide) (by decide), kg_eq]
    exact ha) (fun i h6 h7 h8 => by rw [ks_at _ _ _ _ _ h8, ks_at _ _ _ _ _ h7, ks_at _ _ _ _ _ h6])
  unfold wts
  try dsimp only
  refine wf_bd ?_ (by decide)
  split
  · refine wf_bd ?_ (by decide)
    split
    · exact wf_bd h1 (by decide)
    · exact h1
  · split
    · exact wf_bd h1 (by decide)
    · exact h1
theorem wf_rg {kf : KF} {n : Nat} {b : Int32} (h : WF kf n) : ∀ i, i ≤ n → WF (lp (rgS b) i (kf, 0)).1 n := by
  intro i
  induction i with
  | zero => intro _; exact h
  | succ i ih =>
    intro hi
    have h1 := ih (by omega)
    show WF (rgS b i (lp (rgS b) i (kf, 0))).1 n
    generalize lp (rgS b) i (kf, 0) = s at h1 ⊢
    unfold rgS
    split
    · exact wf_rdy h1 (by omega)
    · exact h1
theorem rg_oth {kf : KF} {b : Int32} {t v : Nat} (hv : v < 20) (h6 : ¬ kg kf t 6 = 2) : ∀ i, kg (lp (rgS b) i (kf, 0)).1 t v = kg kf t v ∧ kg (lp (rgS b) i (kf, 0)).1 t 6 = kg kf t 6 := by
  intro i
  induction i with
  | zero => exact ⟨rfl, rfl⟩
  | succ i ih =>
    show kg (rgS b i (lp (rgS b) i (kf, 0))).1 t v = kg kf t v ∧ kg (rgS b i (lp (rgS b) i (kf, 0))).1 t 6 = kg kf t 6
    generalize lp (rgS b) i (kf, 0) = s at ih ⊢
    unfold rgS
    split
    · rename_i q
      have hne : t ≠ i := fun z => h6 (by rw [← ih.2, z]; exact q.1)
      exact ⟨(rdy_oth _ _ _ _ hv (Or.inl hne)).trans ih.1, (rdy_oth _ _ _ _ (by decide) (Or.inl hne)).trans ih.2⟩
    · exact ih
/-- whom a lock goes to waited for it; all others stay as they were -/
theorem ps_oth {kf : KF} {vf : VF} {l t v : Nat} (hv : v < 20) (hl : l < 100) (h6 : ¬ kg kf t 6 = 1) : kg (psF kf vf l) t v = kg kf t v := by
  unfold psF
  cases hp : pick kf vf (wtP kf l) (nT kf) with
  | none =>
    dsimp only
    exact kg_hold _ _ _ hl _ _
  | some b =>
    dsimp only
    have hb := (pick_lt hp).2
    have hne : t ≠ b := fun z => h6 (by
      subst z
      simp [wtP] at hb
      exact hb.1)
    rw [kg_bd _ _ _ _ (by split <;> decide), rdy_oth _ _ _ _ hv (Or.inl hne), kg_hold _ _ _ hl]
theorem rgP_lo (kf : KF) (t c : Nat) (h : Int32) {j : Nat} (hj : j < 4) : ∀ i, rgP kf t c h i j = kf j := by
  intro i
  induction i with
  | zero =>
    show upd (upd (upd kf 4 _) 5 _) 16 _ j = kf j
    rw [upd_ne _ _ (by omega), upd_ne _ _ (by omega), upd_ne _ _ (by omega)]
  | succ i ih =>
    show upd (rgP kf t c h i) (16 + (i + 1)) _ j = kf j
    rw [upd_ne _ _ (by omega)]
    exact ih
/-- an act that goes on or waits has two bytes -/
theorem act_two {kf : KF} {vf : VF} {t p a : Nat} (h : ¬ 0 < (acG kf vf t p a).1) (h2 : ¬ (acG kf vf t p a).1 = -2) : ¬ kf (340 + p) < 0 ∧ a + 1 < plen kf p ∧ acG kf vf t p a = acO kf vf t (kf (30000 + 1000 * p + a)) (kf (30000 + 1000 * p + a + 1)) := by
  unfold acG at h h2 ⊢
  split
  · rename_i q
    rw [if_pos q] at h
    exact absurd (show (0 : Int32) < nI 1 by decide) h
  · rename_i q
    rw [if_neg q] at h h2
    split
    · rename_i q1
      rw [if_pos q1] at h h2
      split
      · rename_i q2
        rw [if_pos q2] at h h2
        split
        · rename_i q3
          rw [if_pos q3] at h2
          exact absurd rfl h2
        · rename_i q3
          rw [if_neg q3] at h
          split
          · rename_i q4
            exact ⟨q, q4, rfl⟩
          · rename_i q4
            rw [if_neg q4] at h
            exact absurd (show (0 : Int32) < nI 2 by decide) h
      · rename_i q2
        rw [if_neg q2] at h
        exact absurd (show (0 : Int32) < nI 10 by decide) h
    · rename_i q1
      rw [if_neg q1] at h
      exact absurd (show (0 : Int32) < nI 2 by decide) h
