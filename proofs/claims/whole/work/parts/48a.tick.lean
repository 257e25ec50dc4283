/-! a tick: what the class's ways rest on -/
section TickP
variable {kf k' : KF} {vf : VF} {n t u : Nat}
def RT (i : Nat) : Prop := i = 1 ∨ (240 ≤ i ∧ i < 62000)
theorem nxt_cg (hW : WF kf n) (e : ∀ i, RT i → k' i = kf i) (ht : t < n) : nxt k' t = nxt kf t := by
  have hn := hW.1.2
  have g : ∀ w, w < 20 → kg k' t w = kg kf t w := fun w hw => e _ (by unfold RT; omega)
  unfold nxt
  rw [g 6 (by decide), g 7 (by decide)]
  split
  · rename_i h6
    obtain ⟨l, hl, e7, -⟩ := hW.2.1 t ht h6
    rw [e7, nI_clamp (by omega)]
    exact e _ (by unfold RT; omega)
  · rfl
theorem chn_cg (hW : WF kf n) (e : ∀ i, RT i → k' i = kf i) : ∀ f w, w < n → chn k' t f (nI w) = chn kf t f (nI w) := by
  have hn := hW.1.2
  intro f
  induction f with
  | zero => intro w _; rfl
  | succ f ih =>
    intro w hw
    by_cases q : nI w = nI t
    · rw [chn, chn, if_neg (nI_pos (by omega)), if_neg (nI_pos (by omega)), if_pos q, if_pos q]
    · rw [chn_s (by omega) q, chn_s (by omega) q, nxt_cg hW e hw]
      rcases nxt_ok hW.ch hw with hx | ⟨a, ha, hx⟩
      · rw [chn_neg f hx, chn_neg f hx]
      · rw [hx]
        exact ih a ha
theorem ah_cg {a b : Nat} (hn : n ≤ 200) (e : ∀ i, RT i → k' i = kf i) (ha : a < n) (hb : b < n) : ahead k' vf a b = ahead kf vf a b := by
  have g : ∀ s w, s < n → w < 20 → kg k' s w = kg kf s w := fun s w hs hw => e _ (by unfold RT; omega)
  unfold ahead key c0 isDue
  rw [g a 0 ha (by decide), g a 13 ha (by decide), g a 12 ha (by decide), g b 0 hb (by decide), g b 13 hb (by decide), g b 12 hb (by decide)]
theorem nt_cg (e : ∀ i, RT i → k' i = kf i) : nT k' = nT kf := by
  unfold nT
  rw [e 1 (by unfold RT; exact Or.inl rfl)]
theorem lp_cgI {σ : Type} {f g : Nat → σ → σ} {s : σ} (I : σ → Prop) (h0 : I s) : ∀ n, (∀ i, i < n → ∀ s, I s → f i s = g i s ∧ I (g i s)) → lp f n s = lp g n s ∧ I (lp g n s) := by
  intro n
  induction n with
  | zero => intro _; exact ⟨rfl, h0⟩
  | succ n ih =>
    intro h
    obtain ⟨h1, h2⟩ := ih (fun i hi => h i (by omega))
    have h3 := h n (by omega) (lp g n s) h2
    refine ⟨?_, h3.2⟩
    show f n (lp f n s) = g n (lp g n s)
    rw [h1]
    exact h3.1
theorem rch_cg (hW : WF kf n) (e : ∀ i, RT i → k' i = kf i) {i : Nat} (hi : i < n) : rch k' t i = rch kf t i := by
  have h := chn_cg (t := t) hW e (nT kf + 1) i hi
  have h2 := nt_cg e
  unfold rch
  rw [h2]
  generalize chn k' t (nT kf + 1) (nI i) = a at h ⊢
  generalize chn kf t (nT kf + 1) (nI i) = b at h ⊢
  rw [h]
theorem stnd_cg (hW : WF kf n) (e : ∀ i, RT i → k' i = kf i) (ht : t < n) : stnd k' vf t = stnd kf vf t := by
  have hn := hW.1.2
  have h2 := nt_cg e
  have h3 := hW.nt
  unfold stnd
  rw [h2, h3]
  refine (lp_cgI (fun b => b < n) ht n (fun i hi b hb => ?_)).1
  have e1 := rch_cg (t := t) hW e hi
  have e2 := ah_cg (vf := vf) hn e hi hb
  rw [e1, e2]
  refine ⟨rfl, ?_⟩
  split
  · exact hi
  · exact hb
theorem rk_cg (hn : n ≤ 200) (e : ∀ i, RT i → k' i = kf i) (ht : t < n) : rkA k' vf t = rkA kf vf t := by
  have g : ∀ s w, s < n → w < 20 → kg k' s w = kg kf s w := fun s w hs hw => e _ (by unfold RT; omega)
  unfold rkA
  rw [g t 13 ht (by decide), g t 12 ht (by decide)]
theorem rh_cg (hn : n ≤ 200) (e : ∀ i, RT i → k' i = kf i) (h : RH kf vf n) : RH k' vf n := fun t ht => by
  have g : ∀ s w, s < n → w < 20 → kg k' s w = kg kf s w := fun s w hs hw => e _ (by unfold RT; omega)
  obtain ⟨h1, h2⟩ := h t ht
  unfold isDue at h1 ⊢
  rw [g t 13 ht (by decide), g t 12 ht (by decide), g t 0 ht (by decide)]
  exact ⟨h1, h2⟩
/-- one whom none outranks -/
theorem pick_min {P : Nat → Bool} (hW : WF kf n) (hR : RH kf vf n) : ∀ i, i ≤ n → ∀ b, pick kf vf P i = some b → ∀ u, u < i → P u = true → rkA kf vf (stnd kf vf b) ≤ rkA kf vf (stnd kf vf u) := by
  have hn := hW.1.2
  intro i
  induction i with
  | zero => intro _ b _ u hu; exact absurd hu (Nat.not_lt_zero _)
  | succ i ih =>
    intro hi b hb u hu hP
    cases hp : P i with
    | false =>
      rw [pick_s0 hp] at hb
      rcases Nat.lt_succ_iff_lt_or_eq.mp hu with z | z
      · exact ih (by omega) b hb u z hP
      · subst z
        rw [hp] at hP
        cases hP
    | true =>
      cases hq : pick kf vf P i with
      | none =>
        rw [pick_s1 hp hq] at hb
        cases hb
        rcases Nat.lt_succ_iff_lt_or_eq.mp hu with z | z
        · have := pick_none hq u z
          rw [this] at hP
          cases hP
        · subst z
          exact Int64.le_refl _
      | some c =>
        have hc := (pick_lt hq).1
        have s1 := (stnd_min hW hR (show i < n by omega)).1
        have s2 := (stnd_min hW hR (show c < n by omega)).1
        cases ha : ahead kf vf (stnd kf vf i) (stnd kf vf c) with
        | true =>
          rw [pick_s2 hp hq ha] at hb
          cases hb
          have := (hR.ah hn s1 s2).mp ha
          rcases Nat.lt_succ_iff_lt_or_eq.mp hu with z | z
          · exact Int64.le_trans (Int64.le_of_lt this) (ih (by omega) c hq u z hP)
          · subst z
            exact Int64.le_refl _
        | false =>
          rw [pick_s3 hp hq ha] at hb
          cases hb
          have := (hR.nah hn s1 s2).mp ha
          rcases Nat.lt_succ_iff_lt_or_eq.mp hu with z | z
          · exact ih (by omega) _ hq u z hP
          · subst z
            exact this
/-- chains that end here are of one end -/
theorem up_end (hW : WF kf n) {s b : Nat} (hs : s < n) (ht : t < n) (hb : b < n) (h1 : Up kf s t) (h2 : Up kf s b) (e1 : kg kf t 6 = 0) (e2 : kg kf b 6 = 0) : t = b := by
  have hn := hW.1.2
  have x : ∀ u, kg kf u 6 = 0 → nxt kf u = -1 := fun u h => by rw [nxt, if_neg (by rw [h]; decide)]
  refine Up.ind hW ht (fun s => Up kf s b → t = b) (fun h => ?_) (fun u a hu ha ea _ ih h => ?_) hs h1 h2
  · obtain ⟨f, e⟩ := h
    cases f with
    | zero => exact (nI_eq (by omega) (by omega)).mp e
    | succ f =>
      by_cases q : nI t = nI b
      · exact (nI_eq (by omega) (by omega)).mp q
      · rw [chn_s (by omega) q, x t e1, chn_neg f (by decide)] at e
        have := nI_pos' (n := b) (by omega)
        rw [← e] at this
        exact absurd this (by decide)
  · obtain ⟨f, e⟩ := h
    have ub : u ≠ b := fun z => by
      rw [z, x b e2] at ea
      have := nI_pos' (n := a) (by omega)
      rw [← ea] at this
      exact absurd this (by decide)
    have q : ¬ nI u = nI b := fun z => ub ((nI_eq (by omega) (by omega)).mp z)
    cases f with
    | zero => exact absurd e q
    | succ f =>
      rw [chn_s (by omega) q, ea] at e
      exact ih ⟨f, e⟩
theorem st_inj (hW : WF kf n) (hR : RH kf vf n) {b : Nat} (ht : t < n) (hb : b < n) (e1 : kg kf t 6 = 0) (e2 : kg kf b 6 = 0) (h : rkA kf vf (stnd kf vf t) = rkA kf vf (stnd kf vf b)) : t = b := by
  obtain ⟨a1, a2, -⟩ := stnd_min hW hR ht
  obtain ⟨b1, b2, -⟩ := stnd_min hW hR hb
  have e := hR.inj hW.1.2 a1 b1 h
  rw [← e] at b2
  exact up_end hW a1 ht hb a2 b2 e1 e2
end TickP
/-! ticks without anything to do -/
def QT (kf : KF) (n x : Nat) : Prop := ∀ t, t < n → ¬ kg kf t 6 = 0 ∧ (kg kf t 6 = 3 → ∃ u, kg kf t 8 = nI u ∧ u < 2 ^ 31 ∧ x ≤ u) ∧ (isDue kf t = true → ¬ kg kf t 6 = 4 → ∃ e, kg kf t 12 = nI e ∧ e < 2 ^ 31 ∧ x ≤ e)
theorem wk_quiet {kf : KF} {n z : Nat} (hn : n ≤ 200) (hz : z < 2 ^ 30) (h : QT kf n (z + 1)) : ∀ i, i ≤ n → lp (wkS (nI z)) i kf = kf := by
  intro i
  induction i with
  | zero => intro _; rfl
  | succ i ih =>
    intro hi
    show wkS (nI z) i (lp (wkS (nI z)) i kf) = kf
    rw [ih (by omega)]
    obtain ⟨-, h2, h3⟩ := h i (by omega)
    unfold wkS
    split
    · rfl
    · rename_i c4
      have e1 : wk1 (nI z) i kf = kf := by
        unfold wk1
        rw [if_neg]
        rintro ⟨q1, q2⟩
        obtain ⟨u, hu, hu2, hu3⟩ := h2 q1
        rw [hu] at q2
        have := (nI_eq hu2 (by omega)).mp q2
        omega
      rw [e1]
      unfold wk2
      rw [if_neg]
      rintro ⟨q1, q2⟩
      obtain ⟨u, hu, hu2, hu3⟩ := h3 q1 c4
      rw [hu] at q2
      have := (nI_eq hu2 (by omega)).mp q2
      omega
theorem upd_self {kf : KF} {j : Nat} {x : Int32} (h : kf j = x) : upd kf j x = kf := by
  subst h
  funext i
  unfold upd
  split
  · rename_i e
    rw [e]
  · rfl
theorem ch_quiet {kf : KF} {vf : VF} {n : Nat} {lf : Nat → Int32} (hW : WF kf n) (h : ∀ t, t < n → ¬ kg kf t 6 = 0) (hm : ∀ q, q < 4 → kf (7 + q) = -1) : ∀ i, i ≤ 4 → lp (chS vf) i (kf, lf) = (kf, lf) := by
  intro i
  induction i with
  | zero => intro _; rfl
  | succ i ih =>
    intro hi
    show chF (lp (chS vf) i (kf, lf)).1 vf (lp (chS vf) i (kf, lf)).2 i = (kf, lf)
    rw [ih (by omega)]
    dsimp only
    unfold chF
    have e : pick kf vf (rdP kf lf) (nT kf) = none := by
      rw [hW.nt]
      cases hp : pick kf vf (rdP kf lf) n with
      | none => rfl
      | some b =>
        obtain ⟨hb, hP⟩ := pick_lt hp
        simp [rdP] at hP
        exact absurd hP.1 (h b hb)
    rw [e]
    dsimp only
    rw [upd_self (hm i (by omega))]
theorem tu_quiet {s : KF × VF} {P : Nat} (hm : ∀ q, P ≤ q → q < 4 → s.1 (7 + q) = -1) : ∀ i, i ≤ 4 → P ≤ i → lp tuS P s = lp tuS P s → ∀ s', lp tuS P s' = s → lp tuS i s' = s := by
  intro i
  induction i with
  | zero =>
    intro _ hP _ s' hs
    rw [show P = 0 by omega] at hs
    exact hs
  | succ i ih =>
    intro hi hP _ s' hs
    by_cases e : P = i + 1
    · rw [← e]
      exact hs
    · show tuS i (lp tuS i s') = s
      rw [ih (by omega) (by omega) rfl s' hs]
      unfold tuS
      rw [hm i (by omega) (by omega), if_pos (by decide)]
theorem c4_c4 (kf : KF) (x : Int32) : c4 (upd (c4 kf) 0 x) = upd (c4 kf) 0 x := by
  have e : ∀ q, q < 4 → upd (c4 kf) 0 x (7 + q) = -1 := fun q hq => by rw [upd_ne _ _ (by omega), c4_m _ hq]
  show upd (upd (upd (upd (upd (c4 kf) 0 x) (7 + 0) (-1)) (7 + 1) (-1)) (7 + 2) (-1)) (7 + 3) (-1) = _
  rw [upd_self (e 0 (by omega)), upd_self (e 1 (by omega)), upd_self (e 2 (by omega)), upd_self (e 3 (by omega))]
theorem tc_quiet {kf : KF} {vf : VF} {lf : Nat → Int32} {n z : Nat} (hW : WF kf n) (hz : z < 2 ^ 30) (h0 : kf 0 = nI z) (h : QT kf n (z + 1)) : tcF kf vf lf = (upd (c4 kf) 0 (nI (z + 1)), vf, lt0 lf) := by
  have hn := hW.1.2
  obtain ⟨P, hP1, hP4, hP⟩ := hW.2.2.2.2.2.2.2.2
  have e1 : wkF kf = kf := by rw [wkF, h0, hW.nt]; exact wk_quiet hn hz h n (Nat.le_refl _)
  have e2 : tc1 kf vf lf = (c4 kf, lt0 lf) := by
    rw [tc1, e1, hP, nI_clamp (show P < 2 ^ 31 by omega)]
    refine ch_quiet (wf_c4 hW) (fun t ht => ?_) (fun q hq => c4_m _ hq) P hP4
    have : kg (c4 kf) t 6 = kg kf t 6 := c4_at _ (by omega)
    rw [this]
    exact (h t ht).1
  have e3 : tc2 kf vf lf = (c4 kf, vf) := by
    rw [tc2, e2, hP, nI_clamp (show P < 2 ^ 31 by omega)]
    exact tu_quiet (P := 0) (s := (c4 kf, vf)) (fun q _ hq => c4_m _ hq) P hP4 (Nat.zero_le _) rfl (c4 kf, vf) rfl
  unfold tcF
  rw [e3, e2]
  dsimp only
  rw [c4_at _ (by omega), h0, nI_add]
theorem QT.c {kf : KF} {n x y : Nat} {v : Int32} (h : QT kf n x) (hy : y ≤ x) : QT (upd (c4 kf) 0 v) n y := fun t ht => by
  have g : ∀ w, kg (upd (c4 kf) 0 v) t w = kg kf t w := fun w => by
    unfold kg
    rw [upd_ne _ _ (by omega), c4_at _ (by omega)]
  obtain ⟨h1, h2, h3⟩ := h t ht
  unfold isDue at h3 ⊢
  rw [g 6, g 8, g 12, g 0]
  refine ⟨h1, fun q => ?_, fun q1 q2 => ?_⟩
  · obtain ⟨u, a, b, c⟩ := h2 q
    exact ⟨u, a, b, by omega⟩
  · obtain ⟨u, a, b, c⟩ := h3 q1 q2
    exact ⟨u, a, b, by omega⟩
/-- a leap over q quiet ticks -/
theorem rn_quiet {vf : VF} {n r : Nat} : ∀ (q f z d : Nat) (kf : KF) (lf : Nat → Int32), q ≤ f → 0 < q → WF kf n → z + q < 2 ^ 30 → kf 0 = nI z → kf 3 = nI r → r + 4 ≤ 8000 → QT kf n (z + q) → ∃ lf', rnL f (kf, vf, lf) d = rnL (f - q) (upd (c4 kf) 0 (nI (z + q)), vf, lf') (d + q) := by
  intro q
  induction q with
  | zero => intro f z d kf lf _ h0; exact absurd h0 (by omega)
  | succ q ih =>
    intro f z d kf lf hf _ hW hz h0 h3 hr hQ
    obtain ⟨f, rfl⟩ : ∃ g, f = g + 1 := ⟨f - 1, by omega⟩
    have hroom : ((kf, vf, lf).1 3).toNatClampNeg + 4 ≤ 8000 := by
      show (kf 3).toNatClampNeg + 4 ≤ 8000
      rw [h3, nI_clamp (by omega)]
      exact hr
    rw [rn_t hroom]
    dsimp only
    have hQ1 : QT kf n (z + 1) := fun t ht => by
      obtain ⟨a, b, c⟩ := hQ t ht
      refine ⟨a, fun y => ?_, fun y1 y2 => ?_⟩
      · obtain ⟨u, a, b, c⟩ := b y
        exact ⟨u, a, b, by omega⟩
      · obtain ⟨u, a, b, c⟩ := c y1 y2
        exact ⟨u, a, b, by omega⟩
    rw [tc_quiet hW (by omega) h0 hQ1]
    by_cases hq : q = 0
    · subst hq
      exact ⟨lt0 lf, rfl⟩
    · have hW2 : WF (upd (c4 kf) 0 (nI (z + 1))) n := wf_upd (wf_c4 hW) (by unfold rel; omega)
      obtain ⟨lf', e⟩ := ih f (z + 1) (d + 1) (upd (c4 kf) 0 (nI (z + 1))) (lt0 lf) (by omega) (by omega) hW2 (by omega) (upd_eq _ _ _) (by rw [upd_ne _ _ (by omega), c4_at _ (by omega)]; exact h3) hr (hQ.c (by omega))
      refine ⟨lf', ?_⟩
      rw [e, c4_c4, upd_upd]
      rw [show f + 1 - (q + 1) = f - q by omega, show z + 1 + q = z + (q + 1) by omega, show d + 1 + q = d + (q + 1) by omega]
