/-! chains end; waiting, forking, sharing keep a state well formed -/
def cB (p : Nat → Bool) (n : Nat) : Nat := lp (fun y c => if p y then c + 1 else c) n 0
theorem cB_s (p : Nat → Bool) (n : Nat) : cB p (n + 1) = if p n then cB p n + 1 else cB p n := rfl
theorem cB_mono {p q : Nat → Bool} : ∀ n, (∀ y, y < n → p y = true → q y = true) → cB p n ≤ cB q n := by
  intro n
  induction n with
  | zero => intro _; exact Nat.le_refl _
  | succ n ih =>
    intro h
    have h1 := ih (fun y hy => h y (by omega))
    rw [cB_s, cB_s]
    by_cases hp : p n = true
    · rw [if_pos hp, if_pos (h n (by omega) hp)]
      omega
    · rw [if_neg hp]
      split <;> omega
theorem cB_lt {p q : Nat → Bool} : ∀ n, (∀ y, y < n → p y = true → q y = true) → ∀ z, z < n → q z = true → p z = false → cB p n < cB q n := by
  intro n
  induction n with
  | zero => intro _ z hz; exact absurd hz (Nat.not_lt_zero _)
  | succ n ih =>
    intro h z hz hq hp
    have hm := cB_mono n (fun y hy => h y (by omega))
    rw [cB_s, cB_s]
    by_cases e : z = n
    · subst e
      rw [if_neg (by rw [hp]; decide), if_pos hq]
      omega
    · have h1 := ih (fun y hy => h y (by omega)) z (by omega) hq hp
      by_cases hpn : p n = true
      · rw [if_pos hpn, if_pos (h n (by omega) hpn)]
        omega
      · rw [if_neg hpn]
        split <;> omega
theorem cB_all (n : Nat) : cB (fun _ => true) n = n := by
  induction n with
  | zero => rfl
  | succ n ih =>
    rw [cB_s, if_pos rfl, ih]
/-- a chain of holders ends within 200 steps -/
theorem wf_end {kf : KF} {n : Nat} (h : WF kf n) (t : Nat) : ∀ i, i < n → chn kf t 200 (nI i) < 0 ∨ chn kf t 200 (nI i) = nI t := by
  obtain ⟨⟨h1, h2⟩, hC, hV, ⟨ρ, hA⟩, -⟩ := id h
  have hch := h.ch
  have key : ∀ f i, i < n → cB (fun y => decide (ρ y < ρ i)) n < f → chn kf t f (nI i) < 0 ∨ chn kf t f (nI i) = nI t := by
    intro f
    induction f with
    | zero => intro i _ hf; exact absurd hf (Nat.not_lt_zero _)
    | succ f ih =>
      intro i hi hf
      by_cases ht : nI i = nI t
      · right
        rw [chn, if_neg (nI_pos (by omega)), if_pos ht]
        exact ht
      · rw [chn_s (by omega) ht]
        rcases nxt_ok hch hi with hx | ⟨k, hk, ek⟩
        · left
          rw [chn_neg f hx]
          exact hx
        · rw [ek]
          refine ih k hk ?_
          have h6 : kg kf i 6 = 1 := by
            rcases Decidable.em (kg kf i 6 = 1) with q | q
            · exact q
            · rw [nxt, if_neg q] at ek
              have := nI_pos' (n := k) (by omega)
              rw [← ek] at this
              exact absurd this (by decide)
          obtain ⟨l, hl, e7, -⟩ := hC i hi h6
          have e8 : kf (240 + l) = nI k := by
            rw [nxt, if_pos h6, e7, nI_clamp (by omega)] at ek
            exact ek
          have hr := hA i k l hi hk hl h6 e7 e8
          have := cB_lt (p := fun y => decide (ρ y < ρ k)) (q := fun y => decide (ρ y < ρ i)) n (fun y _ hy => decide_eq_true (Nat.lt_trans (of_decide_eq_true hy) hr)) k hk (decide_eq_true hr) (decide_eq_false (Nat.lt_irrefl _))
          omega
  intro i hi
  refine key 200 i hi ?_
  have := cB_lt (p := fun y => decide (ρ y < ρ i)) (q := fun _ => true) n (fun _ _ _ => rfl) i hi rfl (decide_eq_false (Nat.lt_irrefl _))
  rw [cB_all] at this
  omega
theorem chn_t {kf : KF} {t : Nat} : ∀ (f g : Nat) (w : Int32), t < 200 → f ≤ g → (chn kf t f w < 0 ∨ chn kf t f w = nI t) → chn kf t g w = chn kf t f w := by
  intro f
  induction f with
  | zero =>
    intro g w ht hg h
    have h' : w < 0 ∨ w = nI t := h
    rcases h' with q | q
    · exact chn_neg g q
    · cases g with
      | zero => rfl
      | succ g =>
        subst q
        show chn kf t (g + 1) (nI t) = nI t
        rw [chn, if_neg (show ¬ nI t < 0 from nI_pos (by omega)), if_pos rfl]
  | succ f ih =>
    intro g w ht hg h
    cases g with
    | zero => exact absurd hg (by omega)
    | succ g =>
      rw [chn, chn]
      rw [chn] at h
      split
      · rfl
      · rename_i q
        rw [if_neg q] at h
        split
        · rfl
        · rename_i q2
          rw [if_neg q2] at h
          exact ih g _ ht (by omega) h
theorem noW {kf : KF} {n l : Nat} (h : WF kf n) (hl : l < 100) (hx : kf (240 + l) < 0) : ∀ j, j < n → kg kf j 6 = 1 → ¬ kg kf j 7 = nI l := fun j hj q z => by
  obtain ⟨l', hl', e7, i, hi, e8⟩ := h.2.1 j hj q
  have hn2 := h.1.2
  have : l' = l := (nI_eq (by omega) (by omega)).mp (e7.symm.trans z)
  subst this
  rw [e8] at hx
  exact nI_pos (by omega) hx
/-- t, who waits for no lock, begins to wait for one whose holders' chain doesn't lead to t -/
theorem wf_wait {kf : KF} {n t l i0 : Nat} {c : Int32} (h : WF kf n) (ht : t < n) (h60 : ¬ kg kf t 6 = 1) (hl : l < 100) (hi0 : i0 < n) (e0 : kf (240 + l) = nI i0) (hr : chn kf t 200 (nI i0) < 0) : WF (wts kf t (nI 1) (nI l) c) n := by
  classical
  obtain ⟨⟨h1, h2⟩, hC, hV, ⟨ρ, hA⟩, hT, hL, hB, hR, hP⟩ := id h
  have hch := h.ch
  have e : ∀ i, i ≠ 400 + 20 * t + 6 → i ≠ 400 + 20 * t + 7 → i ≠ 400 + 20 * t + 8 → (i < 220 ∨ 232 ≤ i) → wts kf t (nI 1) (nI l) c i = kf i := fun i a b d q => wts_at kf t i _ _ _ a b d q
  have g : ∀ j w, w < 20 → (j ≠ t ∨ w < 6 ∨ 8 < w) → kg (wts kf t (nI 1) (nI l) c) j w = kg kf j w := fun j w hw hj => e _ (by omega) (by omega) (by omega) (by omega)
  have gh : ∀ q, q < 100 → wts kf t (nI 1) (nI l) c (240 + q) = kf (240 + q) := fun q hq => e _ (by omega) (by omega) (by omega) (by omega)
  have hlead : ∀ j k l', j < n → k < n → l' < 100 → j ≠ t → kg kf j 6 = 1 → kg kf j 7 = nI l' → kf (240 + l') = nI k → ((∃ f, chn kf t f (nI j) = nI t) ↔ ∃ f, chn kf t f (nI k) = nI t) := by
    intro j k l' hj hk hl' hjt h6 e7 e8
    have ex : nxt kf j = nI k := by rw [nxt, if_pos h6, e7, nI_clamp (by omega)]; exact e8
    have hne : ¬ nI j = nI t := mt (nI_eq (by omega) (by omega)).mp hjt
    constructor
    · rintro ⟨f, hf⟩
      cases f with
      | zero => exact absurd hf hne
      | succ f =>
        rw [chn_s (by omega) hne, ex] at hf
        exact ⟨f, hf⟩
    · rintro ⟨f, hf⟩
      exact ⟨f + 1, by rw [chn_s (by omega) hne, ex]; exact hf⟩
  have hnl : ¬ ∃ f, chn kf t f (nI i0) = nI t := by
    rintro ⟨f, hf⟩
    rcases Nat.le_total f 200 with q | q
    · rw [chn_t f 200 _ (by omega) q (Or.inr hf), hf] at hr
      exact nI_pos (by omega) hr
    · have := chn_t 200 f (nI i0) (by omega) q (Or.inl hr)
      rw [← this, hf] at hr
      exact nI_pos (by omega) hr
  refine ⟨⟨by rw [e 1 (by omega) (by omega) (by omega) (by omega)]; exact h1, h2⟩, fun j hj q => ?_, fun q hq => ?_, ⟨fun x => if (∃ f, chn kf t f (nI x) = nI t) then ρ x + ρ i0 + 1 else ρ x, fun j i q hj hi hq q1 q2 q3 => ?_⟩, fun j hj => ?_, fun p hp => ?_, fun i hi => ?_, ?_, ?_⟩
  · by_cases hjt : j = t
    · subst hjt
      exact ⟨l, hl, wts_7 _ _ _ _ _, i0, hi0, by rw [gh l hl]; exact e0⟩
    · rw [g j 6 (by omega) (Or.inl hjt)] at q
      obtain ⟨q', hq', e7, i, hi, e8⟩ := hC j hj q
      exact ⟨q', hq', by rw [g j 7 (by omega) (Or.inl hjt)]; exact e7, i, hi, by rw [gh q' hq']; exact e8⟩
  · rw [gh q hq]
    exact hV q hq
  · rw [gh q hq] at q3
    dsimp only
    by_cases hjt : j = t
    · subst hjt
      rw [wts_7] at q2
      have : q = l := (nI_eq (by omega) (by omega)).mp q2.symm
      subst this
      have hii : i = i0 := (nI_eq (by omega) (by omega)).mp (q3.symm.trans e0)
      subst hii
      rw [if_neg hnl, if_pos ⟨0, rfl⟩]
      omega
    · rw [g j 6 (by omega) (Or.inl hjt)] at q1
      rw [g j 7 (by omega) (Or.inl hjt)] at q2
      have hlt := hA j i q hj hi hq q1 q2 q3
      have hiff := hlead j i q hj hi hq hjt q1 q2 q3
      by_cases hq1 : ∃ f, chn kf t f (nI j) = nI t
      · rw [if_pos hq1, if_pos (hiff.mp hq1)]
        omega
      · rw [if_neg hq1, if_neg (mt hiff.mpr hq1)]
        exact hlt
  · unfold TK
    rw [g j 1 (by omega) (by omega), g j 2 (by omega) (by omega), g j 5 (by omega) (by omega), g j 14 (by omega) (by omega)]
    exact hT j hj
  · rw [e (340 + p) (by omega) (by omega) (by omega) (by omega)]
    exact hL p hp
  · rw [e (30000 + i) (by omega) (by omega) (by omega) (by omega)]
    exact hB i hi
  · rw [e 3 (by omega) (by omega) (by omega) (by omega)]
    exact hR
  · rw [e 2 (by omega) (by omega) (by omega) (by omega)]
    exact hP
/-- share, place or length of the row of a task are others -/
theorem wf_tk {kf k' : KF} {n t w : Nat} (h : WF kf n) (ht : t < n) (hw : w = 2 ∨ w = 5 ∨ w = 14) (e : ∀ i, i ≠ 400 + 20 * t + w → k' i = kf i) (hT' : TK k' t) : WF k' n := by
  obtain ⟨⟨h1, h2⟩, hC, hV, ⟨ρ, hA⟩, hT, hL, hB, hR, hP⟩ := h
  have g : ∀ j v, v < 20 → (j ≠ t ∨ v ≠ w) → kg k' j v = kg kf j v := fun j v hv hj => e _ (by omega)
  refine ⟨⟨by rw [e 1 (by omega)]; exact h1, h2⟩, fun j hj q => ?_, fun l hl => ?_, ⟨ρ, fun j i l hj hi hl q1 q2 q3 => ?_⟩, fun j hj => ?_, fun p hp => ?_, fun i hi => ?_, ?_, ?_⟩
  · rw [g j 6 (by omega) (by omega)] at q
    obtain ⟨l, hl, e7, i, hi, e8⟩ := hC j hj q
    exact ⟨l, hl, by rw [g j 7 (by omega) (by omega)]; exact e7, i, hi, by rw [e _ (by omega)]; exact e8⟩
  · rw [e _ (by omega)]
    exact hV l hl
  · rw [g j 6 (by omega) (by omega)] at q1
    rw [g j 7 (by omega) (by omega)] at q2
    rw [e _ (by omega)] at q3
    exact hA j i l hj hi hl q1 q2 q3
  · by_cases hjt : j = t
    · subst hjt
      exact hT'
    · unfold TK
      rw [g j 1 (by omega) (Or.inl hjt), g j 2 (by omega) (Or.inl hjt), g j 5 (by omega) (Or.inl hjt), g j 14 (by omega) (Or.inl hjt)]
      exact hT j hj
  · rw [e (340 + p) (by omega)]
    exact hL p hp
  · rw [e (30000 + i) (by omega)]
    exact hB i hi
  · rw [e 3 (by omega)]
    exact hR
  · rw [e 2 (by omega)]
    exact hP
