/-! what a turn leaves: the low places, and others that are ready -/
def SL (j : Nat) : Prop := j < 16 ∧ j ≠ 1 ∧ j ≠ 4 ∧ j ≠ 5
def Pv (kf k' : KF) (t : Nat) : Prop := (∀ j, SL j → k' j = kf j) ∧ ∀ s, s ≠ t → kg kf s 6 = 0 → kg k' s 6 = 0
theorem Pv.rf {kf : KF} {t : Nat} : Pv kf kf t := ⟨fun _ _ => rfl, fun _ _ h => h⟩
theorem Pv.tr {a b c : KF} {t : Nat} (h1 : Pv a b t) (h2 : Pv b c t) : Pv a c t := ⟨fun j hj => (h2.1 j hj).trans (h1.1 j hj), fun s hs q => h2.2 s hs (h1.2 s hs q)⟩
theorem Pv.up {kf : KF} {t k : Nat} {x : Int32} (h : ¬ SL k) (h2 : ∀ s, s ≠ t → k ≠ 400 + 20 * s + 6) : Pv kf (upd kf k x) t := ⟨fun j hj => upd_ne _ _ (fun e => h (e ▸ hj)), fun s hs q => by
  unfold kg
  rw [upd_ne _ _ (fun e => h2 s hs e.symm)]
  exact q⟩
theorem pv_bd {kf : KF} {t b : Nat} (hb : b < 12) : Pv kf (bd kf b) t := Pv.up (by unfold SL; omega) (fun s _ => by omega)
theorem pv_ks {kf : KF} {t w : Nat} {x : Int32} (hw : w < 20) : Pv kf (ks kf t w x) t := Pv.up (by unfold SL; omega) (fun s _ => by omega)
theorem pv_rdy {kf : KF} {t u : Nat} : Pv kf (rdy kf u) t := ⟨fun j hj => rdy_at _ _ _ (by unfold SL at hj; omega) (by unfold SL at hj; omega) (by unfold SL at hj; omega), fun s hs q => by
  by_cases e : s = u
  · subst e
    exact rdy_6 _ _
  · rw [rdy_oth _ _ _ _ (by decide) (Or.inl e)]
    exact q⟩
theorem pv_wts {kf : KF} {t : Nat} {a b c : Int32} : Pv kf (wts kf t a b c) t := ⟨fun j hj => wts_at _ _ _ _ _ _ (by unfold SL at hj; omega) (by unfold SL at hj; omega) (by unfold SL at hj; omega) (by unfold SL at hj; omega), fun s hs q => by rw [wts_oth _ _ _ _ _ _ _ (by decide) (Or.inl hs)]; exact q⟩
theorem pv_hold {kf : KF} {t l : Nat} {x : Int32} (hl : l < 100) : Pv kf (upd kf (240 + l) x) t := Pv.up (by unfold SL; omega) (fun s _ => by omega)
theorem pv_ps {kf : KF} {vf : VF} {t l : Nat} (hl : l < 100) : Pv kf (psF kf vf l) t := by
  unfold psF
  cases pick kf vf (wtP kf l) (nT kf) with
  | none => exact pv_hold hl
  | some b => exact Pv.tr (Pv.tr (pv_hold hl) pv_rdy) (pv_bd (by split <;> decide))
theorem pv_rg {kf : KF} {b : Int32} {t : Nat} : ∀ i, Pv kf (lp (rgS b) i (kf, 0)).1 t := by
  intro i
  induction i with
  | zero => exact Pv.rf
  | succ i ih =>
    show Pv kf (rgS b i (lp (rgS b) i (kf, 0))).1 t
    generalize lp (rgS b) i (kf, 0) = s at ih ⊢
    unfold rgS
    split
    · exact ih.tr pv_rdy
    · exact ih
theorem pv_rgP {kf : KF} {t c : Nat} {h : Int32} : ∀ i, i ≤ 200 → Pv kf (rgP kf t c h i) t := by
  intro i
  induction i with
  | zero =>
    intro _
    exact Pv.tr (Pv.tr (Pv.up (by unfold SL; omega) (fun s _ => by omega)) (Pv.up (by unfold SL; omega) (fun s _ => by omega))) (Pv.up (by unfold SL; omega) (fun s _ => by omega))
  | succ i ih =>
    intro hi
    exact (ih (by omega)).tr (Pv.up (by unfold SL; omega) (fun s _ => by omega))
theorem pv_tk {kf : KF} {t : Nat} {q : Int32} : Pv kf (tkF kf t q).2 t := by
  unfold tkF
  split
  · rename_i c1
    obtain ⟨j, -, hj, rfl⟩ := inI_n (by decide) (by decide) c1.1
    rw [nI_clamp (show j < 2 ^ 31 by omega)]
    split
    · exact Pv.rf
    · split
      · exact pv_hold (by omega)
      · split
        · exact pv_wts
        · exact pv_rgP _ (cnt_le _ _ _ _)
  · exact Pv.rf
theorem pv_gv {kf : KF} {vf : VF} {t : Nat} {q : Int32} : Pv kf (gvF kf vf t q).2 t := by
  unfold gvF
  split
  · rename_i c1
    obtain ⟨j, -, hj, rfl⟩ := inI_n (by decide) (by decide) c1.1
    rw [nI_clamp (show j < 2 ^ 31 by omega)]
    split
    · exact (pv_hold (by omega)).tr (pv_ps (by omega))
    · exact Pv.rf
  · exact Pv.rf
theorem pv_fk {kf : KF} {vf : VF} {t : Nat} {q : Int32} : Pv kf (fkF kf vf t q).2.1 t := by
  unfold fkF
  split
  · split
    · exact Pv.rf
    · refine ⟨fun j hj => adK_at _ _ _ _ _ _ _ _ (by unfold SL at hj; omega) (by unfold SL at hj; omega), fun s hs h => ?_⟩
      by_cases e : s = nT kf
      · rw [e]
        exact (adK_kg kf (nT kf) (kg kf t 0) q (kg kf t 2) (kg kf t 10) (kg kf t 11)).2.2.2.2.2.2.1
      · exact (adK_at _ _ _ _ _ _ _ _ (by omega) (by omega)).trans h
  · exact Pv.rf
theorem pv_sy {kf : KF} {t : Nat} {q : Int32} : Pv kf (syF kf t q).2 t := by
  unfold syF
  split
  · split
    · dsimp only
      split
      · exact pv_ks (by decide)
      · exact Pv.rf
    · exact Pv.rf
  · exact Pv.rf
theorem pv_sm {kf : KF} {n t : Nat} {op q : Int32} (h : WF kf n) (ht : t < n) (hq : q ≤ nI 127) : (∀ j, SL j → (smF kf t op q).2 j = kf j) ∧ ∀ s, s < 200 → s ≠ t → kg kf s 6 = 0 → kg (smF kf t op q).2 s 6 = 0 := by
  have hn2 := h.1.2
  have same : (∀ j, SL j → kf j = kf j) ∧ ∀ s, s < 200 → s ≠ t → kg kf s 6 = 0 → kg kf s 6 = 0 := ⟨fun _ _ => rfl, fun _ _ _ z => z⟩
  unfold smF
  split
  · split
    · split
      · exact same
      · rename_i c3
        obtain ⟨b, hb, rfl⟩ := nI_of c3
        have hb2 : b ≤ 127 := by have := by_le hq b rfl; omega
        rw [nI_clamp hb]
        refine ⟨fun j hj => ?_, fun s hs hst z => ?_⟩
        · exact (lpS_at (ks kf t 14 (nI b)) t j b (by omega) (by unfold SL at hj; omega)).trans (ks_at _ _ _ _ _ (by unfold SL at hj; omega))
        · exact ((lpS_at (ks kf t 14 (nI b)) t (400 + 20 * s + 6) b (by omega) (by omega)).trans (ks_at _ _ _ _ _ (by omega))).trans z
    · exact same
  · split
    · exact same
    · split
      · rename_i c3
        obtain ⟨b, hb, rfl⟩ : ∃ b, b < 127 ∧ q = nI b := by
          rcases h.hm t ht with z | ⟨c, hc, z⟩
          · exact absurd c3 (fun y => inc_m z y)
          · obtain ⟨k, hk, e⟩ := inc_n z (by omega) c3
            exact ⟨k, by omega, e⟩
        rw [nI_clamp (show b < 2 ^ 31 by omega)]
        split
        · refine ⟨fun j hj => upd_ne _ _ (by unfold SL at hj; omega), fun s hs hst z => ?_⟩
          exact (upd_ne kf _ (show 400 + 20 * s + 6 ≠ 4400 + 128 * t + b by omega)).trans z
        · dsimp only
          split
          · exact ⟨(pv_ks (by decide)).1, fun s _ hst z => (pv_ks (t := t) (by decide)).2 s hst z⟩
          · exact same
      · exact same
/-- the same for tasks below 200 -/
def Pw (kf k' : KF) (t : Nat) : Prop := (∀ j, SL j → k' j = kf j) ∧ ∀ s, s < 200 → s ≠ t → kg kf s 6 = 0 → kg k' s 6 = 0
theorem Pv.w {kf k' : KF} {t : Nat} (h : Pv kf k' t) : Pw kf k' t := ⟨h.1, fun s _ => h.2 s⟩
theorem Pw.tr {a b c : KF} {t : Nat} (h1 : Pw a b t) (h2 : Pw b c t) : Pw a c t := ⟨fun j hj => (h2.1 j hj).trans (h1.1 j hj), fun s h hs q => h2.2 s h hs (h1.2 s h hs q)⟩
theorem pw_O {kf : KF} {vf : VF} {n t : Nat} {op q : Int32} (h : WF kf n) (ht : t < n) (hq : q ≤ nI 127) : Pw kf (acO kf vf t op q).2.1 t := by
  unfold acO
  split
  · dsimp only
    split
    · exact (pv_ks (by decide)).w
    · exact Pv.rf.w
  · split
    · exact pv_tk.w
    · split
      · exact pv_gv.w
      · split
        · split
          · exact pv_wts.w
          · exact Pv.rf.w
        · split
          · split
            · exact (pv_rg _).w
            · exact Pv.rf.w
          · split
            · split
              · exact pv_wts.w
              · exact Pv.rf.w
            · split
              · exact pv_fk.w
              · split
                · exact pv_sy.w
                · split
                  · exact Pv.rf.w
                  · exact pv_sm h ht hq
theorem pw_act {kf : KF} {vf : VF} {n t : Nat} (h : WF kf n) (ht : t < n) : Pw kf (actF kf vf t).2.1 t := by
  obtain ⟨⟨p, hp, ep⟩, -, ⟨a, ha, ea⟩, -⟩ := h.2.2.2.2.1 t ht
  rw [act_G ep ea (by omega) (by omega)]
  unfold acG
  have hl := plen_le h.2.2.2.2.2.1 hp
  split
  · exact Pv.rf.w
  · split
    · split
      · split
        · exact Pv.rf.w
        · split
          · refine pw_O h ht ?_
            rw [show 30000 + 1000 * p + a + 1 = 30000 + (1000 * p + a + 1) by omega]
            exact h.2.2.2.2.2.2.1 _ (by omega)
          · exact Pv.rf.w
      · exact Pv.rf.w
    · exact Pv.rf.w
theorem pv_ed {kf : KF} {vf : VF} {t : Nat} {q : Int32} : ∀ i, i ≤ 100 → Pv kf (edL kf vf t q i) t := by
  intro i
  induction i with
  | zero => intro _; exact Pv.tr (Pv.tr pv_rdy (pv_ks (by decide))) (pv_ks (by decide))
  | succ i ih =>
    intro hi
    have h1 := ih (by omega)
    show Pv kf (edS vf t i (edL kf vf t q i)) t
    unfold edS
    split
    · exact h1.tr ((pv_hold (by omega)).tr (pv_ps (by omega)))
    · exact h1
theorem pv_edF {kf : KF} {vf : VF} {t : Nat} {q : Int32} : Pv kf (edF kf vf t q) t := by
  unfold edF
  exact pv_ed 100 (Nat.le_refl _)
theorem wf_edF {kf : KF} {vf : VF} {n t : Nat} {q : Int32} (h : WF kf n) (ht : t < n) : WF (edF kf vf t q) n := by
  unfold edF
  exact wf_edL h ht 100 (Nat.le_refl _)
/-- behind a turn: low places, ready ones, a well-formed state -/
theorem pw_tnL {t : Nat} : ∀ (f : Nat) (kf : KF) (vf : VF) (n a : Nat), WF kf n → t < n → kg kf t 6 = 0 → kg kf t 5 = nI a → a ≤ 1001 → Pw kf (tnL f kf vf t).1 t ∧ ∃ n', n ≤ n' ∧ WF (tnL f kf vf t).1 n' := by
  intro f
  induction f with
  | zero => intro kf vf n a h _ _ _ _; exact ⟨Pv.rf.w, n, Nat.le_refl _, h⟩
  | succ f ih =>
    intro kf vf n a h ht h6 ha ha2
    have hn2 := h.1.2
    obtain ⟨⟨n1, hn1, hW1⟩, h5e, h6e⟩ := lf_act (vf := vf) h ht h6
    have hp := pw_act (vf := vf) h ht
    by_cases q1 : 0 < kg kf t 4
    · rw [tn_w f q1]
      exact ⟨(pv_ks (by decide)).w, n, Nat.le_refl _, wf_ks h (by decide) (by omega)⟩
    · by_cases q2 : 0 < (actF kf vf t).1
      · have e := tn_p f q1 q2
        have g1 := hp.tr (pv_edF (vf := (actF kf vf t).2.2) (t := t) (q := (actF kf vf t).1)).w
        have g2 := wf_edF (vf := (actF kf vf t).2.2) (q := (actF kf vf t).1) hW1 (show t < n1 by omega)
        generalize edF (actF kf vf t).2.1 (actF kf vf t).2.2 t (actF kf vf t).1 = E at e g1 g2
        rw [e]
        exact ⟨g1, n1, hn1, g2⟩
      · by_cases q3 : (actF kf vf t).1 = -2
        · have e := tn_e f q1 q2 q3
          have g1 := hp.tr (pv_edF (vf := (actF kf vf t).2.2) (t := t) (q := nI 0)).w
          have g2 := wf_edF (vf := (actF kf vf t).2.2) (q := nI 0) hW1 (show t < n1 by omega)
          generalize edF (actF kf vf t).2.1 (actF kf vf t).2.2 t (nI 0) = E at e g1 g2
          rw [e]
          exact ⟨g1, n1, hn1, g2⟩
        · obtain ⟨ha3, n3, hn3, hW3, ha4⟩ := act_on h ht h6 ha ha2 q2 q3
          have hk : Pw kf (ks (actF kf vf t).2.1 t 5 (kg (actF kf vf t).2.1 t 5 + nI 2)) t := hp.tr (pv_ks (by decide)).w
          by_cases q4 : (actF kf vf t).1 = -1
          · rw [tn_o f q1 q2 q3 q4]
            exact ⟨hk, n3, hn3, hW3⟩
          · have e := tn_n f q1 q2 q3 q4
            have hk6 : kg (ks (actF kf vf t).2.1 t 5 (kg (actF kf vf t).2.1 t 5 + nI 2)) t 6 = 0 := (kg_ne (actF kf vf t).2.1 t 5 t 6 _ (by decide) (by decide) (by decide)).trans ((h6e q4).trans h6)
            generalize ks (actF kf vf t).2.1 t 5 (kg (actF kf vf t).2.1 t 5 + nI 2) = K at e hW3 ha4 hk6 hk
            generalize (actF kf vf t).2.2 = V at e
            obtain ⟨r1, n4, hn4, r2⟩ := ih K V n3 (a + 2) hW3 (by omega) hk6 ha4 ha3
            rw [e]
            exact ⟨hk.tr r1, n4, by omega, r2⟩
theorem pv_pays {kf : KF} {vf : VF} {n t : Nat} (h : WF kf n) (ht : t < n) : Pw kf (paysF kf vf t).1 t := by
  refine ⟨fun j hj => ?_, fun s _ hs q => by rw [pays_oth _ _ _ (by decide) (Or.inl hs)]; exact q⟩
  have lo : ∀ k w x, w < 20 → ks k t w x j = k j := fun k w x hw => ks_at _ _ _ _ _ (by unfold SL at hj; omega)
  have bl : ∀ k b, b < 12 → bd k b j = k j := fun k b hb => k_bd _ _ _ (by unfold SL at hj; omega)
  have pk : ∀ k, payK k t j = k j := fun k => by
    unfold payK
    rw [bl _ _ (by decide), lo _ _ _ (by decide)]
  unfold paysF
  try dsimp only
  have a1 : bd kf (if isDue kf t then 7 else 6) j = kf j := bl _ _ (by split <;> decide)
  generalize bd kf (if isDue kf t then 7 else 6) = k1 at a1 ⊢
  have a2 : (if (isDue kf t && decide (0 < kg k1 t 13)) = true then ks k1 t 13 (kg k1 t 13 - nI 1) else k1) j = kf j := by
    split
    · exact (lo _ _ _ (by decide)).trans a1
    · exact a1
  generalize (if (isDue kf t && decide (0 < kg k1 t 13)) = true then ks k1 t 13 (kg k1 t 13 - nI 1) else k1) = k2 at a2 ⊢
  split
  · exact a2
  · have a3 : (if kg kf t 0 = 2 then bd k2 1 else k2) j = kf j := by
      split
      · exact (bl _ _ (by decide)).trans a2
      · exact a2
    generalize (if kg kf t 0 = 2 then bd k2 1 else k2) = k3 at a3 ⊢
    have a4 : (if kg kf t 0 = 4 then bd k3 2 else k3) j = kf j := by
      split
      · exact (bl _ _ (by decide)).trans a3
      · exact a3
    generalize (if kg kf t 0 = 4 then bd k3 2 else k3) = k4 at a4 ⊢
    split
    · exact (pk _).trans ((pk _).trans a4)
    · exact (pk _).trans a4
theorem pw_tn {kf : KF} {vf : VF} {n t : Nat} (h : WF kf n) (ht : t < n) (h6 : kg kf t 6 = 0) : Pw kf (tnF kf vf t).1 t ∧ ∃ n', n ≤ n' ∧ WF (tnF kf vf t).1 n' := by
  obtain ⟨-, -, ⟨a, ha, ea⟩, -⟩ := h.2.2.2.2.1 t ht
  obtain ⟨r1, n', hn', r2⟩ := pw_tnL (t := t) 502 (paysF kf vf t).1 (paysF kf vf t).2 n a (wf_pays h ht) ht (by rw [pays_oth _ _ _ (by decide) (by omega)]; exact h6) (by rw [pays_oth _ _ _ (by decide) (by omega)]; exact ea) ha
  exact ⟨(pv_pays h ht).tr r1, n', hn', r2⟩
