/-! a turn: the spec -/
theorem wf_pays {kf : KF} {vf : VF} {n t : Nat} (h : WF kf n) (ht : t < n) : WF (paysF kf vf t).1 n := by
  have hn2 := h.1.2
  have pk : ∀ k, WF k n → WF (payK k t) n := fun k hk => by
    unfold payK
    exact wf_bd (wf_ks hk (by decide) (by omega)) (by decide)
  unfold paysF
  try dsimp only
  have a1 : WF (bd kf (if isDue kf t then 7 else 6)) n := wf_bd h (by split <;> decide)
  generalize bd kf (if isDue kf t then 7 else 6) = k1 at a1 ⊢
  have a2 : WF (if (isDue kf t && decide (0 < kg k1 t 13)) = true then ks k1 t 13 (kg k1 t 13 - nI 1) else k1) n := by
    split
    · exact wf_ks a1 (by decide) (by omega)
    · exact a1
  generalize (if (isDue kf t && decide (0 < kg k1 t 13)) = true then ks k1 t 13 (kg k1 t 13 - nI 1) else k1) = k2 at a2 ⊢
  split
  · exact a2
  · have a3 : WF (if kg kf t 0 = 2 then bd k2 1 else k2) n := by
      split
      · exact wf_bd a2 (by decide)
      · exact a2
    generalize (if kg kf t 0 = 2 then bd k2 1 else k2) = k3 at a3 ⊢
    have a4 : WF (if kg kf t 0 = 4 then bd k3 2 else k3) n := by
      split
      · exact wf_bd a3 (by decide)
      · exact a3
    generalize (if kg kf t 0 = 4 then bd k3 2 else k3) = k4 at a4 ⊢
    split
    · exact pk _ (pk _ a4)
    · exact pk _ a4
theorem pays_oth {kf : KF} {vf : VF} (t s w : Nat) (hw : w < 20) (h : s ≠ t ∨ (w ≠ 3 ∧ w ≠ 13)) : kg (paysF kf vf t).1 s w = kg kf s w := by
  have pk : ∀ k, kg (payK k t) s w = kg k s w := fun k => by
    unfold payK
    rw [kg_bd _ _ _ _ (by decide)]
    exact ks_oth _ _ _ _ _ _ (by decide) hw (by omega)
  unfold paysF
  try dsimp only
  have a1 : kg (bd kf (if isDue kf t then 7 else 6)) s w = kg kf s w := kg_bd _ _ _ _ (by split <;> decide)
  generalize bd kf (if isDue kf t then 7 else 6) = k1 at a1 ⊢
  have a2 : kg (if (isDue kf t && decide (0 < kg k1 t 13)) = true then ks k1 t 13 (kg k1 t 13 - nI 1) else k1) s w = kg kf s w := by
    split
    · exact (ks_oth _ _ _ _ _ _ (by decide) hw (by omega)).trans a1
    · exact a1
  generalize (if (isDue kf t && decide (0 < kg k1 t 13)) = true then ks k1 t 13 (kg k1 t 13 - nI 1) else k1) = k2 at a2 ⊢
  split
  · exact a2
  · have a3 : kg (if kg kf t 0 = 2 then bd k2 1 else k2) s w = kg kf s w := by
      split
      · exact (kg_bd _ _ _ _ (by decide)).trans a2
      · exact a2
    generalize (if kg kf t 0 = 2 then bd k2 1 else k2) = k3 at a3 ⊢
    have a4 : kg (if kg kf t 0 = 4 then bd k3 2 else k3) s w = kg kf s w := by
      split
      · exact (kg_bd _ _ _ _ (by decide)).trans a3
      · exact a3
    generalize (if kg kf t 0 = 4 then bd k3 2 else k3) = k4 at a4 ⊢
    split
    · exact (pk _).trans ((pk _).trans a4)
    · exact (pk _).trans a4
/-- acts, till one ends the turn -/
def tnL : Nat → KF → VF → Nat → KF × VF
  | 0, kf, vf, _ => (kf, vf)
  | f + 1, kf, vf, t =>
    if 0 < kg kf t 4 then (ks kf t 4 (kg kf t 4 - nI 1), vf)
    else if 0 < (actF kf vf t).1 then (edF (actF kf vf t).2.1 (actF kf vf t).2.2 t (actF kf vf t).1, (actF kf vf t).2.2)
    else if (actF kf vf t).1 = -2 then (edF (actF kf vf t).2.1 (actF kf vf t).2.2 t (nI 0), (actF kf vf t).2.2)
    else if (actF kf vf t).1 = -1 then (ks (actF kf vf t).2.1 t 5 (kg (actF kf vf t).2.1 t 5 + nI 2), (actF kf vf t).2.2)
    else tnL f (ks (actF kf vf t).2.1 t 5 (kg (actF kf vf t).2.1 t 5 + nI 2)) (actF kf vf t).2.2 t
def tnF (kf : KF) (vf : VF) (t : Nat) : KF × VF := tnL 502 (paysF kf vf t).1 (paysF kf vf t).2 t
/-- behind an act that goes on -/
theorem act_on {kf : KF} {vf : VF} {n t a : Nat} (h : WF kf n) (ht : t < n) (h6 : kg kf t 6 = 0) (ha : kg kf t 5 = nI a) (ha2 : a ≤ 1001) (q1 : ¬ 0 < (actF kf vf t).1) (q2 : ¬ (actF kf vf t).1 = -2) : a + 2 ≤ 1001 ∧ ∃ n', n ≤ n' ∧ WF (ks (actF kf vf t).2.1 t 5 (kg (actF kf vf t).2.1 t 5 + nI 2)) n' ∧ kg (ks (actF kf vf t).2.1 t 5 (kg (actF kf vf t).2.1 t 5 + nI 2)) t 5 = nI (a + 2) := by
  obtain ⟨⟨n', hn', hW⟩, h5, -⟩ := lf_act (vf := vf) h ht h6
  obtain ⟨⟨p, hp, ep⟩, -, -, -⟩ := h.2.2.2.2.1 t ht
  have hG := act_G (vf := vf) ep ha (by omega) (by omega)
  have h2 := (act_two (kf := kf) (vf := vf) (t := t) (p := p) (a := a) (by rw [← hG]; exact q1) (by rw [← hG]; exact q2)).2.1
  have hl := plen_le h.2.2.2.2.2.1 hp
  have e : kg (actF kf vf t).2.1 t 5 + nI 2 = nI (a + 2) := by rw [h5, ha, nI_add]
  refine ⟨by omega, n', hn', ?_, by rw [kg_eq]; exact e⟩
  refine wf_tk hW (by omega) (w := 5) (by omega) (fun i hi => ks_at _ _ _ _ _ hi) ?_
  obtain ⟨a1, a2, -, a4⟩ := hW.2.2.2.2.1 t (by omega)
  unfold TK
  rw [kg_ne _ _ _ _ _ _ (by decide) (by decide) (by decide), kg_ne _ _ _ _ _ _ (by decide) (by decide) (by decide), kg_eq, kg_ne _ _ _ _ _ _ (by decide) (by decide) (by decide), e]
  exact ⟨a1, a2, ⟨a + 2, by omega, rfl⟩, a4⟩
section TN
variable {kf : KF} {vf : VF} {t : Nat} (f : Nat)
theorem tn_w (h : 0 < kg kf t 4) : tnL (f + 1) kf vf t = (ks kf t 4 (kg kf t 4 - nI 1), vf) := if_pos h
theorem tn_p (h1 : ¬ 0 < kg kf t 4) (h2 : 0 < (actF kf vf t).1) : tnL (f + 1) kf vf t = (edF (actF kf vf t).2.1 (actF kf vf t).2.2 t (actF kf vf t).1, (actF kf vf t).2.2) := (if_neg h1).trans (if_pos h2)
theorem tn_e (h1 : ¬ 0 < kg kf t 4) (h2 : ¬ 0 < (actF kf vf t).1) (h3 : (actF kf vf t).1 = -2) : tnL (f + 1) kf vf t = (edF (actF kf vf t).2.1 (actF kf vf t).2.2 t (nI 0), (actF kf vf t).2.2) := (if_neg h1).trans ((if_neg h2).trans (if_pos h3))
theorem tn_o (h1 : ¬ 0 < kg kf t 4) (h2 : ¬ 0 < (actF kf vf t).1) (h3 : ¬ (actF kf vf t).1 = -2) (h4 : (actF kf vf t).1 = -1) : tnL (f + 1) kf vf t = (ks (actF kf vf t).2.1 t 5 (kg (actF kf vf t).2.1 t 5 + nI 2), (actF kf vf t).2.2) := (if_neg h1).trans ((if_neg h2).trans ((if_neg h3).trans (if_pos h4)))
theorem tn_n (h1 : ¬ 0 < kg kf t 4) (h2 : ¬ 0 < (actF kf vf t).1) (h3 : ¬ (actF kf vf t).1 = -2) (h4 : ¬ (actF kf vf t).1 = -1) : tnL (f + 1) kf vf t = tnL f (ks (actF kf vf t).2.1 t 5 (kg (actF kf vf t).2.1 t 5 + nI 2)) (actF kf vf t).2.2 t := (if_neg h1).trans ((if_neg h2).trans ((if_neg h3).trans (if_neg h4)))
end TN
theorem mm_tn {m : Mem} {X : XX} {lf : Nat → Int32} {a b : KF × VF} {mF : Mem} (h : MM m X (a.1, a.2, lf) = mF) (e : a = b) : MM m X (b.1, b.2, lf) = mF := e ▸ h
