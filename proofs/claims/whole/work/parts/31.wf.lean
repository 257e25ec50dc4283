/-! states that are well formed -/
/-- who waits for a lock waits for one that somebody holds -/
def C2 (kf : KF) (n : Nat) : Prop := ∀ j, j < n → kg kf j 6 = 1 → ∃ l, l < 100 ∧ kg kf j 7 = nI l ∧ ∃ i, i < n ∧ kf (240 + l) = nI i
/-- nobody waits for himself: a height that falls from each who waits to the holder -/
def AC (kf : KF) (n : Nat) : Prop := ∃ h : Nat → Nat, ∀ j i l, j < n → i < n → l < 100 → kg kf j 6 = 1 → kg kf j 7 = nI l → kf (240 + l) = nI i → h i < h j
def TK (kf : KF) (j : Nat) : Prop := (∃ p, p < 32 ∧ kg kf j 1 = nI p) ∧ (∃ s, 1 ≤ s ∧ s ≤ 1000 ∧ kg kf j 2 = nI s) ∧ (∃ a, a ≤ 1001 ∧ kg kf j 5 = nI a) ∧ (kg kf j 14 = -1 ∨ ∃ c, c ≤ 127 ∧ kg kf j 14 = nI c)
def BY (kf : KF) : Prop := ∀ i, i < 32000 → kf (30000 + i) ≤ nI 127
def WF (kf : KF) (n : Nat) : Prop := (kf 1 = nI n ∧ n ≤ 200) ∧ C2 kf n ∧ HV kf n ∧ AC kf n ∧ (∀ j, j < n → TK kf j) ∧ LN kf ∧ BY kf ∧ (∃ c, c ≤ 8000 ∧ kf 3 = nI c) ∧ ∃ p, 1 ≤ p ∧ p ≤ 4 ∧ kf 2 = nI p
theorem WF.ch {kf : KF} {n : Nat} (h : WF kf n) : CH kf n := fun j hj h6 => by
  obtain ⟨l, hl, e7, i, hi, e8⟩ := h.2.1 j hj h6
  exact ⟨l, hl, e7, Or.inr ⟨i, hi, e8⟩⟩
theorem WF.hm {kf : KF} {n : Nat} (h : WF kf n) : HM kf n := fun j hj => (h.2.2.2.2.1 j hj).2.2.2
theorem WF.nt {kf : KF} {n : Nat} (h : WF kf n) : nT kf = n := nT_of h.1.1 h.1.2
theorem WF.sh {kf : KF} {n j : Nat} (h : WF kf n) (hj : j < n) : ¬ kg kf j 2 = 0 := by
  obtain ⟨s, h1, h2, e⟩ := (h.2.2.2.2.1 j hj).2.1
  rw [e]
  exact nI_ne0 (by omega) (by omega)
/-- the places that well-formedness speaks of -/
def rel (i : Nat) : Prop := i = 1 ∨ i = 2 ∨ i = 3 ∨ (240 ≤ i ∧ i < 372) ∨ (30000 ≤ i ∧ i < 62000) ∨ ∃ j w, j < 200 ∧ (w = 1 ∨ w = 2 ∨ w = 5 ∨ w = 6 ∨ w = 7 ∨ w = 14) ∧ i = 400 + 20 * j + w
theorem wf_congr {kf k' : KF} {n : Nat} (h : WF kf n) (e : ∀ i, rel i → k' i = kf i) : WF k' n := by
  obtain ⟨⟨h1, h2⟩, hC, hV, ⟨ρ, hA⟩, hT, hL, hB, hR, hP⟩ := h
  have g : ∀ j w, j < n → (w = 1 ∨ w = 2 ∨ w = 5 ∨ w = 6 ∨ w = 7 ∨ w = 14) → kg k' j w = kg kf j w := fun j w hj hw => e _ (Or.inr (Or.inr (Or.inr (Or.inr (Or.inr ⟨j, w, by omega, hw, rfl⟩)))))
  have gh : ∀ l, l < 100 → k' (240 + l) = kf (240 + l) := fun l hl => e _ (by unfold rel; omega)
  refine ⟨⟨by rw [e 1 (by unfold rel; omega)]; exact h1, h2⟩, fun j hj q => ?_, fun l hl => ?_, ⟨ρ, fun j i l hj hi hl q1 q2 q3 => ?_⟩, fun j hj => ?_, fun p hp => ?_, fun i hi => ?_, ?_, ?_⟩
  · rw [g j 6 hj (by omega)] at q
    obtain ⟨l, hl, e7, i, hi, e8⟩ := hC j hj q
    exact ⟨l, hl, by rw [g j 7 hj (by omega)]; exact e7, i, hi, by rw [gh l hl]; exact e8⟩
  · rw [gh l hl]
    exact hV l hl
  · rw [g j 6 hj (by omega)] at q1
    rw [g j 7 hj (by omega)] at q2
    rw [gh l hl] at q3
    exact hA j i l hj hi hl q1 q2 q3
  · unfold TK
    rw [g j 1 hj (by omega), g j 2 hj (by omega), g j 5 hj (by omega), g j 14 hj (by omega)]
    exact hT j hj
  · rw [e (340 + p) (by unfold rel; omega)]
    exact hL p hp
  · rw [e (30000 + i) (by unfold rel; omega)]
    exact hB i hi
  · rw [e 3 (by unfold rel; omega)]
    exact hR
  · rw [e 2 (by unfold rel; omega)]
    exact hP
theorem wf_upd {kf : KF} {n k : Nat} {x : Int32} (h : WF kf n) (hk : ¬ rel k) : WF (upd kf k x) n := wf_congr h (fun i hi => upd_ne _ _ (fun e => hk (e ▸ hi)))
theorem wf_bd {kf : KF} {n b : Nat} (h : WF kf n) (hb : b < 12) : WF (bd kf b) n := wf_upd h (by unfold rel; omega)
/-- a field of a task that well-formedness doesn't speak of -/
theorem wf_ks {kf : KF} {n t w : Nat} {x : Int32} (h : WF kf n) (hw : w < 20 ∧ w ≠ 1 ∧ w ≠ 2 ∧ w ≠ 5 ∧ w ≠ 6 ∧ w ≠ 7 ∧ w ≠ 14) (ht : t < 200) : WF (ks kf t w x) n := wf_upd h (by unfold rel; omega)
/-- another state of a task that doesn't wait for a lock then -/
theorem wf_st {kf k' : KF} {n t : Nat} (h : WF kf n) (ht : t < n) (h6 : ¬ kg k' t 6 = 1) (e : ∀ i, i ≠ 400 + 20 * t + 6 → i ≠ 400 + 20 * t + 7 → i ≠ 400 + 20 * t + 8 → k' i = kf i) : WF k' n := by
  obtain ⟨⟨h1, h2⟩, hC, hV, ⟨ρ, hA⟩, hT, hL, hB, hR, hP⟩ := h
  have g : ∀ j w, w < 20 → (j ≠ t ∨ w < 6 ∨ 8 < w) → kg k' j w = kg kf j w := fun j w hw hj => e _ (by omega) (by omega) (by omega)
  have ne : ∀ j, kg k' j 6 = 1 → j ≠ t := fun j q z => h6 (z ▸ q)
  refine ⟨⟨by rw [e 1 (by omega) (by omega) (by omega)]; exact h1, h2⟩, fun j hj q => ?_, fun l hl => ?_, ⟨ρ, fun j i l hj hi hl q1 q2 q3 => ?_⟩, fun j hj => ?_, fun p hp => ?_, fun i hi => ?_, ?_, ?_⟩
  · have z := ne j q
    rw [g j 6 (by omega) (Or.inl z)] at q
    obtain ⟨l, hl, e7, i, hi, e8⟩ := hC j hj q
    exact ⟨l, hl, by rw [g j 7 (by omega) (Or.inl z)]; exact e7, i, hi, by rw [e _ (by omega) (by omega) (by omega)]; exact e8⟩
  · rw [e _ (by omega) (by omega) (by omega)]
    exact hV l hl
  · have z := ne j q1
    rw [g j 6 (by omega) (Or.inl z)] at q1
    rw [g j 7 (by omega) (Or.inl z)] at q2
    rw [e _ (by omega) (by omega) (by omega)] at q3
    exact hA j i l hj hi hl q1 q2 q3
  · unfold TK
    rw [g j 1 (by omega) (by omega), g j 2 (by omega) (by omega), g j 5 (by omega) (by omega), g j 14 (by omega) (by omega)]
    exact hT j hj
  · rw [e (340 + p) (by omega) (by omega) (by omega)]
    exact hL p hp
  · rw [e (30000 + i) (by omega) (by omega) (by omega)]
    exact hB i hi
  · rw [e 3 (by omega) (by omega) (by omega)]
    exact hR
  · rw [e 2 (by omega) (by omega) (by omega)]
    exact hP
theorem rdy_at (kf : KF) (t i : Nat) (h6 : i ≠ 400 + 20 * t + 6) (h7 : i ≠ 400 + 20 * t + 7) (h8 : i ≠ 400 + 20 * t + 8) : rdy kf t i = kf i := by
  unfold rdy ks
  rw [upd_ne _ _ h8, upd_ne _ _ h7, upd_ne _ _ h6]
theorem rdy_6 (kf : KF) (t : Nat) : kg (rdy kf t) t 6 = nI 0 := by
  rw [rdy, kg_ne _ _ _ _ _ _ (by decide) (by decide) (by decide), kg_ne _ _ _ _ _ _ (by decide) (by decide) (by decide), kg_eq]
theorem wf_rdy {kf : KF} {n t : Nat} (h : WF kf n) (ht : t < n) : WF (rdy kf t) n := wf_st h ht (by rw [rdy_6]; decide) (fun i h6 h7 h8 => rdy_at kf t i h6 h7 h8)
theorem wts_at (kf : KF) (t i : Nat) (a b c : Int32) (h6 : i ≠ 400 + 20 * t + 6) (h7 : i ≠ 400 + 20 * t + 7) (h8 : i ≠ 400 + 20 * t + 8) (hb : i < 220 ∨ 232 ≤ i) : wts kf t a b c i = kf i := by
  have e : ks (ks (ks kf t 6 a) t 7 b) t 8 c i = kf i := by
    unfold ks
    rw [upd_ne _ _ h8, upd_ne _ _ h7, upd_ne _ _ h6]
  unfold wts
  try dsimp only
  rw [k_bd _ _ _ (by omega)]
  split
  · rw [k_bd _ _ _ (by omega)]
    split
    · rw [k_bd _ _ _ (by omega), e]
    · exact e
  · split
    · rw [k_bd _ _ _ (by omega), e]
    · exact e
theorem kg_wts (kf : KF) (t s w : Nat) (a b c : Int32) (hw : w < 20) : kg (wts kf t a b c) s w = kg (ks (ks (ks kf t 6 a) t 7 b) t 8 c) s w := by
  unfold wts
  try dsimp only
  rw [kg_bd _ _ _ _ (by decide)]
  split
  · rw [kg_bd _ _ _ _ (by decide)]
    split
    · rw [kg_bd _ _ _ _ (by decide)]
    · rfl
  · split
    · rw [kg_bd _ _ _ _ (by decide)]
    · rfl
theorem wts_6 (kf : KF) (t : Nat) (a b c : Int32) : kg (wts kf t a b c) t 6 = a := by
  rw [kg_wts _ _ _ _ _ _ _ (by decide), kg_ne _ _ _ _ _ _ (by decide) (by decide) (by decide), kg_ne _ _ _ _ _ _ (by decide) (by decide) (by decide), kg_eq]
theorem wts_7 (kf : KF) (t : Nat) (a b c : Int32) : kg (wts kf t a b c) t 7 = b := by
  rw [kg_wts _ _ _ _ _ _ _ (by decide), kg_ne _ _ _ _ _ _ (by decide) (by decide) (by decide), kg_eq]
