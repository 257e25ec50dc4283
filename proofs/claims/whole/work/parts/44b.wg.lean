/-! a second kind of well-formedness: what the class's shorter ways rest on -/
def gA (k6 k7 k8 : Int32) (c : Nat) : Prop := (k6 = 0 → k7 = -1 ∧ k8 = -1) ∧ (k6 = 3 → ∃ u, k8 = nI u ∧ c ≤ u ∧ u ≤ c + 1000)
def gS (k2 k3 : Int32) : Prop := ∃ r s, k3 = nI r ∧ k2 = nI s ∧ r < s ∧ s ≤ 1000
def gD (k0 k6 k11 k12 k13 : Int32) (c : Nat) : Prop := (¬ (k0 = 1 ∨ k0 = 2) → k11 = 0 ∧ k13 = 0) ∧ ∃ e, k12 = nI e ∧ e ≤ c + 1000 ∧ ((k0 = 1 ∨ k0 = 2) → ¬ k6 = 4 → c ≤ e)
def gH (kf : KF) (t : Nat) : Prop := ∀ i, i < mny kf t → ∃ y : Int16, kf (4400 + 128 * t + i) = y.toInt32
def TG (kf : KF) (vf : VF) (t c B : Nat) : Prop := gA (kg kf t 6) (kg kf t 7) (kg kf t 8) c ∧ ¬ kg kf t 4 < 0 ∧ gS (kg kf t 2) (kg kf t 3) ∧ (∃ p, 1 ≤ p ∧ p ≤ 1000 ∧ kg kf t 10 = nI p) ∧ gD (kg kf t 0) (kg kf t 6) (kg kf t 11) (kg kf t 12) (kg kf t 13) c ∧ (∃ x, vf t = lN x ∧ x ≤ B) ∧ gH kf t
def WG (kf : KF) (vf : VF) (c B : Nat) : Prop := (∀ t, t < nT kf → TG kf vf t c B) ∧ (∀ l, l < 100 → kf (240 + l) = -2 ∨ kf (240 + l) = -1 ∨ ∃ i, i < nT kf ∧ kf (240 + l) = nI i) ∧ (∃ q, q ≤ 200 ∧ kf 5 = nI q) ∧ ∃ k, kf 0 = nI k ∧ k ≤ c ∧ c ≤ k + 1
theorem due_iff {kf : KF} {t : Nat} : isDue kf t = true ↔ (kg kf t 0 = 1 ∨ kg kf t 0 = 2) := by simp [isDue]
theorem TG.cg {kf k' : KF} {vf v' : VF} {t c B : Nat} (h : TG kf vf t c B) (e : ∀ w, w < 15 → kg k' t w = kg kf t w) (s : ∀ i, i < mny kf t → k' (4400 + 128 * t + i) = kf (4400 + 128 * t + i)) (v : v' t = vf t) : TG k' v' t c B := by
  have m : mny k' t = mny kf t := by unfold mny; rw [e 14 (by decide)]
  unfold TG gH
  rw [e 6 (by decide), e 7 (by decide), e 8 (by decide), e 4 (by decide), e 2 (by decide), e 3 (by decide), e 10 (by decide), e 0 (by decide), e 11 (by decide), e 12 (by decide), e 13 (by decide), m, v]
  obtain ⟨h1, h2, h3, h4, h5, h6, h7⟩ := h
  exact ⟨h1, h2, h3, h4, h5, h6, fun i hi => by rw [s i hi]; exact h7 i hi⟩
/-- the places that matter -/
def RG (i : Nat) : Prop := i = 0 ∨ i = 1 ∨ i = 5 ∨ (240 ≤ i ∧ i < 340) ∨ (400 ≤ i ∧ i < 30000)
theorem WG.cg {kf k' : KF} {vf : VF} {c B n : Nat} (hw : WF kf n) (h : WG kf vf c B) (e : ∀ i, RG i → k' i = kf i) : WG k' vf c B := by
  have hn := hw.1.2
  have nt : nT k' = nT kf := by unfold nT; rw [e 1 (by unfold RG; omega)]
  have nt2 := hw.nt
  obtain ⟨h1, h2, h3, h4⟩ := h
  unfold WG
  rw [nt, e 5 (by unfold RG; omega), e 0 (by unfold RG; omega)]
  refine ⟨fun t ht => (h1 t ht).cg (fun w hw => e _ (by unfold RG; omega)) (fun i hi => e _ ?_) rfl, fun l hl => ?_, h3, h4⟩
  · have := mny_le hw.hm (show t < n by omega)
    unfold RG
    omega
  · rw [e _ (by unfold RG; omega)]
    exact h2 l hl
/-- one task has changed -/
theorem WG.one {kf k' : KF} {vf v' : VF} {c B B' n t : Nat} (hw : WF kf n) (h : WG kf vf c B) (e : ∀ i, RG i → ¬ (400 + 20 * t ≤ i ∧ i < 400 + 20 * t + 20) → ¬ (4400 + 128 * t ≤ i ∧ i < 4400 + 128 * t + 128) → k' i = kf i) (hv : ∀ s, s ≠ t → v' s = vf s) (ht : t < 200) (hB : B ≤ B') (k : TG k' v' t c B') : WG k' v' c B' := by
  have hn := hw.1.2
  have nt : nT k' = nT kf := by unfold nT; rw [e 1 (by unfold RG; omega) (by omega) (by omega)]
  have nt2 := hw.nt
  obtain ⟨h1, h2, h3, h4⟩ := h
  unfold WG
  rw [nt, e 5 (by unfold RG; omega) (by omega) (by omega), e 0 (by unfold RG; omega) (by omega) (by omega)]
  refine ⟨fun s hs => ?_, fun l hl => ?_, h3, h4⟩
  · by_cases q : s = t
    · subst q
      exact k
    · have := (h1 s hs).cg (k' := k') (v' := v') (fun w hw => e _ (by unfold RG; omega) (by omega) (by omega)) (fun i hi => e _ (by
        have := mny_le hw.hm (show s < n by omega)
        unfold RG
        omega) (by
        have := mny_le hw.hm (show s < n by omega)
        omega) (by
        have := mny_le hw.hm (show s < n by omega)
        omega)) (hv s q)
      obtain ⟨q1, q2, q3, q4, q5, ⟨x, q6, q8⟩, q7⟩ := this
      exact ⟨q1, q2, q3, q4, q5, ⟨x, q6, by omega⟩, q7⟩
  · rw [e _ (by unfold RG; omega) (by omega) (by omega)]
    exact h2 l hl
section WG1
variable {kf : KF} {vf : VF} {c B n t : Nat}
theorem wg_up (hw : WF kf n) (h : WG kf vf c B) {k : Nat} {x : Int32} (hk : ¬ RG k) : WG (upd kf k x) vf c B := h.cg hw (fun i hi => upd_ne _ _ (fun e => hk (e ▸ hi)))
theorem wg_bd (hw : WF kf n) (h : WG kf vf c B) {b : Nat} (hb : b < 12) : WG (bd kf b) vf c B := wg_up hw h (by unfold RG; omega)
theorem WG.at (hw : WF kf n) (h : WG kf vf c B) (ht : t < n) : TG kf vf t c B := h.1 t (by rw [hw.nt]; exact ht)
/-- some fields of one task -/
theorem wg_f (hw : WF kf n) (h : WG kf vf c B) {k' : KF} (ht : t < n) (e : ∀ i, ¬ (400 + 20 * t ≤ i ∧ i < 400 + 20 * t + 20) → k' i = kf i) (k : TG k' vf t c B) : WG k' vf c B := by
  have hn := hw.1.2
  exact h.one hw (fun i _ q _ => e i q) (fun _ _ => rfl) (by omega) (Nat.le_refl _) k
theorem wg_ks (hw : WF kf n) (h : WG kf vf c B) {w : Nat} {x : Int32} (ht : t < n) (hq : w = 1 ∨ w = 5 ∨ w = 9) : WG (ks kf t w x) vf c B := by
  have hn := hw.1.2
  have o := h.at hw ht
  refine wg_f hw h ht (fun i hi => ks_at _ _ _ _ _ (by omega)) ?_
  have g : ∀ v, v < 20 → v ≠ w → kg (ks kf t w x) t v = kg kf t v := fun v hv q => kg_ne _ _ _ _ _ _ (by omega) hv q
  have m : mny (ks kf t w x) t = mny kf t := by unfold mny; rw [g 14 (by decide) (by omega)]
  unfold TG gH
  rw [g 6 (by decide) (by omega), g 7 (by decide) (by omega), g 8 (by decide) (by omega), g 4 (by decide) (by omega), g 2 (by decide) (by omega), g 3 (by decide) (by omega), g 10 (by decide) (by omega), g 0 (by decide) (by omega), g 11 (by decide) (by omega), g 12 (by decide) (by omega), g 13 (by decide) (by omega), m]
  obtain ⟨h1, h2, h3, h4, h5, h6, h7⟩ := o
  exact ⟨h1, h2, h3, h4, h5, h6, fun i hi => by rw [ks_at _ _ _ _ _ (by omega)]; exact h7 i hi⟩
theorem wg_4 (hw : WF kf n) (h : WG kf vf c B) {x : Int32} (ht : t < n) (hx : ¬ x < 0) : WG (ks kf t 4 x) vf c B := by
  have hn := hw.1.2
  have o := h.at hw ht
  refine wg_f hw h ht (fun i hi => ks_at _ _ _ _ _ (by omega)) ?_
  have g : ∀ v, v < 20 → v ≠ 4 → kg (ks kf t 4 x) t v = kg kf t v := fun v hv q => kg_ne _ _ _ _ _ _ (by omega) hv q
  have m : mny (ks kf t 4 x) t = mny kf t := by unfold mny; rw [g 14 (by decide) (by omega)]
  unfold TG gH
  rw [g 6 (by decide) (by omega), g 7 (by decide) (by omega), g 8 (by decide) (by omega), kg_eq, g 2 (by decide) (by omega), g 3 (by decide) (by omega), g 10 (by decide) (by omega), g 0 (by decide) (by omega), g 11 (by decide) (by omega), g 12 (by decide) (by omega), g 13 (by decide) (by omega), m]
  obtain ⟨h1, h2, h3, h4, h5, h6, h7⟩ := o
  exact ⟨h1, hx, h3, h4, h5, h6, fun i hi => by rw [ks_at _ _ _ _ _ (by omega)]; exact h7 i hi⟩
theorem wg_13 (hw : WF kf n) (h : WG kf vf c B) {x : Int32} (ht : t < n) (hx : isDue kf t = true) : WG (ks kf t 13 x) vf c B := by
  have hn := hw.1.2
  have o := h.at hw ht
  refine wg_f hw h ht (fun i hi => ks_at _ _ _ _ _ (by omega)) ?_
  have g : ∀ v, v < 20 → v ≠ 13 → kg (ks kf t 13 x) t v = kg kf t v := fun v hv q => kg_ne _ _ _ _ _ _ (by omega) hv q
  have m : mny (ks kf t 13 x) t = mny kf t := by unfold mny; rw [g 14 (by decide) (by omega)]
  unfold TG gH
  rw [g 6 (by decide) (by omega), g 7 (by decide) (by omega), g 8 (by decide) (by omega), g 4 (by decide) (by omega), g 2 (by decide) (by omega), g 3 (by decide) (by omega), g 10 (by decide) (by omega), g 0 (by decide) (by omega), g 11 (by decide) (by omega), g 12 (by decide) (by omega), kg_eq, m]
  obtain ⟨h1, h2, h3, h4, h5, h6, h7⟩ := o
  exact ⟨h1, h2, h3, h4, ⟨fun q => absurd (due_iff.mp hx) q, h5.2⟩, h6, fun i hi => by rw [ks_at _ _ _ _ _ (by omega)]; exact h7 i hi⟩
/-- state, what is waited for, until -/
theorem wg_678 (hw : WF kf n) (h : WG kf vf c B) {k' : KF} (ht : t < n) (e : ∀ i, i ≠ 400 + 20 * t + 6 → i ≠ 400 + 20 * t + 7 → i ≠ 400 + 20 * t + 8 → RG i → k' i = kf i) (hA : gA (kg k' t 6) (kg k' t 7) (kg k' t 8) c) (h4 : kg kf t 6 = 4 → kg k' t 6 = 4) : WG k' vf c B := by
  have hn := hw.1.2
  have o := h.at hw ht
  have g : ∀ v, v < 20 → v ≠ 6 → v ≠ 7 → v ≠ 8 → kg k' t v = kg kf t v := fun v hv q1 q2 q3 => e _ (by omega) (by omega) (by omega) (by unfold RG; omega)
  have m : mny k' t = mny kf t := by unfold mny; rw [g 14 (by decide) (by omega) (by omega) (by omega)]
  refine h.one (t := t) hw (fun i hi q _ => e i (by omega) (by omega) (by omega) hi) (fun _ _ => rfl) (by omega) (Nat.le_refl _) ?_
  unfold TG gH
  rw [g 4 (by decide) (by omega) (by omega) (by omega), g 2 (by decide) (by omega) (by omega) (by omega), g 3 (by decide) (by omega) (by omega) (by omega), g 10 (by decide) (by omega) (by omega) (by omega), g 0 (by decide) (by omega) (by omega) (by omega), g 11 (by decide) (by omega) (by omega) (by omega), g 12 (by decide) (by omega) (by omega) (by omega), g 13 (by decide) (by omega) (by omega) (by omega), m]
  obtain ⟨h1, h2, h3, h4', ⟨h5, x, h6, h8, h9⟩, h6', h7⟩ := o
  have := mny_le hw.hm ht
  exact ⟨hA, h2, h3, h4', ⟨h5, x, h6, h8, fun q1 q2 => h9 q1 (fun z => q2 (h4 z))⟩, h6', fun i hi => by rw [e _ (by omega) (by omega) (by omega) (by unfold RG; omega)]; exact h7 i hi⟩
theorem wg_rdy (hw : WF kf n) (h : WG kf vf c B) (ht : t < n) (h4 : ¬ kg kf t 6 = 4) : WG (rdy kf t) vf c B := by
  refine wg_678 hw h ht (fun i h6 h7 h8 _ => rdy_at kf t i h6 h7 h8) ?_ (fun q => absurd q h4)
  have e7 : kg (rdy kf t) t 7 = -1 := by rw [rdy, kg_ne _ _ _ _ _ _ (by decide) (by decide) (by decide), kg_eq]
  have e8 : kg (rdy kf t) t 8 = -1 := by rw [rdy, kg_eq]
  rw [rdy_6, e7, e8]
  exact ⟨fun _ => ⟨rfl, rfl⟩, fun q => absurd q (by decide)⟩
theorem wg_wts (hw : WF kf n) (h : WG kf vf c B) {x y z : Int32} (ht : t < n) (hA : gA x y z c) (h4 : ¬ kg kf t 6 = 4) : WG (wts kf t x y z) vf c B := by
  refine wg_678 hw h ht (fun i h6 h7 h8 hi => wts_at kf t i x y z h6 h7 h8 (by unfold RG at hi; omega)) ?_ (fun q => absurd q h4)
  have e8 : kg (wts kf t x y z) t 8 = z := by rw [kg_wts _ _ _ _ _ _ _ (by decide), kg_eq]
  rw [wts_6, wts_7, e8]
  exact hA
theorem wg_ed0 (hw : WF kf n) (h : WG kf vf c B) {q : Int32} (ht : t < n) : WG (ed0 kf t q) vf c B := by
  refine wg_ks (n := n) (wf_st (wf_rdy hw ht) ht (t := t) (k' := ks (rdy kf t) t 6 (nI 4)) (by rw [kg_eq]; decide) (fun i h6 _ _ => ks_at _ _ _ _ _ h6)) (wg_678 hw h ht (fun i h6 h7 h8 _ => ?_) ?_ (fun _ => kg_eq _ _ _ _)) ht (by omega)
  · rw [ks_at _ _ _ _ _ h6]
    exact rdy_at kf t i h6 h7 h8
  · rw [kg_eq]
    exact ⟨fun q => absurd q (by decide), fun q => absurd q (by decide)⟩
theorem wg_ho (hw : WF kf n) (h : WG kf vf c B) {l : Nat} {x : Int32} (hl : l < 100) (hx : x = -1 ∨ ∃ i, i < n ∧ x = nI i) : WG (upd kf (240 + l) x) vf c B := by
  have hn := hw.1.2
  have nt2 := hw.nt
  have e : ∀ i, i ≠ 240 + l → upd kf (240 + l) x i = kf i := fun i hi => upd_ne _ _ hi
  have nt : nT (upd kf (240 + l) x) = nT kf := by unfold nT; rw [e 1 (by omega)]
  obtain ⟨h1, h2, h3, h4⟩ := h
  unfold WG
  rw [nt, e 5 (by omega), e 0 (by omega)]
  refine ⟨fun t ht => (h1 t ht).cg (fun w hw => e _ (by omega)) (fun i hi => e _ (by omega)) rfl, fun j hj => ?_, h3, h4⟩
  by_cases q : j = l
  · subst q
    rw [upd_eq, nt2]
    exact Or.inr hx
  · rw [e _ (by omega)]
    exact h2 j hj
end WG1
theorem wg_ps {kf : KF} {vf : VF} {c B n l : Nat} (hw : WF kf n) (h : WG kf vf c B) (hl : l < 100) : WG (psF (upd kf (240 + l) (-1)) vf l) vf c B := by
  have hn := hw.1.2
  have hnt : nT (upd kf (240 + l) (-1)) = n := nT_of (by rw [upd_ne _ _ (by omega)]; exact hw.1.1) hn
  have hnt2 := hw.nt
  unfold psF
  rw [hnt]
  cases hp : pick (upd kf (240 + l) (-1)) vf (wtP (upd kf (240 + l) (-1)) l) n with
  | none =>
    dsimp only
    rw [upd_upd]
    exact wg_ho hw h hl (Or.inl rfl)
  | some b =>
    dsimp only
    rw [upd_upd]
    obtain ⟨hb, hP⟩ := pick_lt hp
    have h61 : kg kf b 6 = 1 := by
      unfold wtP at hP
      rw [kg_hold _ _ _ hl] at hP
      simp at hP
      exact hP.1
    have o := h.at hw hb
    have e : ∀ i, i ≠ 240 + l → i ≠ 400 + 20 * b + 6 → i ≠ 400 + 20 * b + 7 → i ≠ 400 + 20 * b + 8 → rdy (upd kf (240 + l) (nI b)) b i = kf i := fun i q h6 h7 h8 => by rw [rdy_at _ _ _ h6 h7 h8, upd_ne _ _ q]
    have hW := wf_pass hw hl hb
    refine wg_bd hW ?_ (by split <;> decide)
    have h1 := wg_ho hw h hl (x := nI b) (Or.inr ⟨b, hb, rfl⟩)
    obtain ⟨g1, g2, g3, g4⟩ := h1
    have nt1 : nT (upd kf (240 + l) (nI b)) = n := by unfold nT; rw [upd_ne _ _ (by omega)]; exact hnt2
    have nt2 : nT (rdy (upd kf (240 + l) (nI b)) b) = n := hW.nt
    rw [nt1] at g1 g2
    unfold WG
    rw [nt2, e 5 (by omega) (by omega) (by omega) (by omega), e 0 (by omega) (by omega) (by omega) (by omega)]
    refine ⟨fun s hs => ?_, fun j hj => ?_, h.2.2⟩
    · have q := g1 s hs
      by_cases z : s = b
      · subst z
        have g : ∀ v, v < 20 → v ≠ 6 → v ≠ 7 → v ≠ 8 → kg (rdy (upd kf (240 + l) (nI s)) s) s v = kg kf s v := fun v hv q1 q2 q3 => e _ (by omega) (by omega) (by omega) (by omega)
        have m : mny (rdy (upd kf (240 + l) (nI s)) s) s = mny kf s := by unfold mny; rw [g 14 (by decide) (by omega) (by omega) (by omega)]
        have e7 : kg (rdy (upd kf (240 + l) (nI s)) s) s 7 = -1 := by rw [rdy, kg_ne _ _ _ _ _ _ (by decide) (by decide) (by decide), kg_eq]
        have e8 : kg (rdy (upd kf (240 + l) (nI s)) s) s 8 = -1 := by rw [rdy, kg_eq]
        unfold TG gH
        rw [rdy_6, e7, e8, g 4 (by decide) (by omega) (by omega) (by omega), g 2 (by decide) (by omega) (by omega) (by omega), g 3 (by decide) (by omega) (by omega) (by omega), g 10 (by decide) (by omega) (by omega) (by omega), g 0 (by decide) (by omega) (by omega) (by omega), g 11 (by decide) (by omega) (by omega) (by omega), g 12 (by decide) (by omega) (by omega) (by omega), g 13 (by decide) (by omega) (by omega) (by omega), m]
        obtain ⟨h1, h2, h3, h4', ⟨h5, x, h6, h8, h9⟩, h6', h7⟩ := o
        exact ⟨⟨fun _ => ⟨rfl, rfl⟩, fun q => absurd q (by decide)⟩, h2, h3, h4', ⟨h5, x, h6, h8, fun q1 q2 => h9 q1 (by rw [h61]; decide)⟩, h6', fun i hi => by rw [e _ (by omega) (by omega) (by omega) (by omega)]; exact h7 i hi⟩
      · exact q.cg (fun w hw => rdy_oth _ _ _ _ (by omega) (Or.inl z)) (fun i hi => rdy_at _ _ _ (by omega) (by omega) (by omega)) rfl
    · rw [rdy_at _ _ _ (by omega) (by omega) (by omega)]
      exact g2 j hj
theorem wg_rg {kf : KF} {vf : VF} {c B n : Nat} {b : Int32} (hw : WF kf n) (h : WG kf vf c B) : ∀ i, i ≤ n → WG (lp (rgS b) i (kf, 0)).1 vf c B := by
  intro i
  induction i with
  | zero => intro _; exact h
  | succ i ih =>
    intro hi
    have h1 := ih (by omega)
    have h2 := wf_rg (b := b) hw i (by omega)
    show WG (rgS b i (lp (rgS b) i (kf, 0))).1 vf c B
    generalize lp (rgS b) i (kf, 0) = s at h1 h2 ⊢
    unfold rgS
    split
    · rename_i q
      exact wg_rdy h2 h1 (by omega) (by rw [q.1]; decide)
    · exact h1
