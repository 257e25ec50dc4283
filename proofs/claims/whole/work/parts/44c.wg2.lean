/-! an ACT keeps the second well-formedness -/
theorem cnt_b {kf : KF} {n t : Nat} (h : WF kf n) (ht : t < 200) : ∀ i f, i < n → chn kf t f (nI i) = nI t → cnt kf t f (nI i) < n := by
  obtain ⟨⟨h1, h2⟩, hC, hV, ⟨ρ, hA⟩, -⟩ := id h
  have hch := h.ch
  have key : ∀ f i, i < n → chn kf t f (nI i) = nI t → cnt kf t f (nI i) ≤ cB (fun y => decide (ρ y < ρ i)) n := by
    intro f
    induction f with
    | zero => intro i _ hf; exact Nat.zero_le _
    | succ f ih =>
      intro i hi hf
      by_cases q : nI i = nI t
      · rw [cnt, if_neg (nI_pos (by omega)), if_pos q]
        exact Nat.zero_le _
      · rw [chn_s (by omega) q] at hf
        rw [cnt, if_neg (nI_pos (by omega)), if_neg q, nI_clamp (by omega)]
        obtain ⟨k, hk, ek⟩ := (nxt_ok hch hi).resolve_left (chn_nx ht hf)
        rw [ek] at hf ⊢
        have := ih k hk hf
        have h6 : kg kf i 6 = 1 := by
          rcases Decidable.em (kg kf i 6 = 1) with q | q
          · exact q
          · rw [nxt, if_neg q] at ek
            have := nI_pos' (n := k) (by omega)
            rw [← ek] at this
            exact absurd this (by decide)
        obtain ⟨l, hl, e7, -⟩ := hC i hi h6
        have e8 : kf (240 + l) = nI k := by
          rw [nxt, if_pos h6, e7, nI_clamp (by omega)] at ek
          exact ek
        have hr := hA i k l hi hk hl h6 e7 e8
        have := cB_lt (p := fun y => decide (ρ y < ρ k)) (q := fun y => decide (ρ y < ρ i)) n (fun y _ hy => decide_eq_true (Nat.lt_trans (of_decide_eq_true hy) hr)) k hk (decide_eq_true hr) (decide_eq_false (Nat.lt_irrefl _))
        omega
  intro i f hi hf
  have := key f i hi hf
  have := cB_lt (p := fun y => decide (ρ y < ρ i)) (q := fun _ => true) n (fun _ _ _ => rfl) i hi rfl (decide_eq_false (Nat.lt_irrefl _))
  rw [cB_all] at this
  omega
theorem rgP_5 (kf : KF) (t c : Nat) (h : Int32) : ∀ i, rgP kf t c h i 5 = nI (c + 1) := by
  intro i
  induction i with
  | zero =>
    show upd (upd (upd kf 4 (kf 4 + nI 1)) 5 (nI (c + 1))) 16 (nI t) 5 = nI (c + 1)
    rw [upd_ne _ _ (by omega), upd_eq]
  | succ i ih =>
    show upd (rgP kf t c h i) (16 + (i + 1)) _ 5 = nI (c + 1)
    rw [upd_ne _ _ (by omega)]
    exact ih
theorem wg_tk {kf : KF} {vf : VF} {c B n t : Nat} {q : Int32} (hw : WF kf n) (h : WG kf vf c B) (ht : t < n) (h6 : kg kf t 6 = 0) : WG (tkF kf t q).2 vf c B := by
  have hn2 := hw.1.2
  have hnt := hw.nt
  unfold tkF
  split
  · rename_i c1
    obtain ⟨j, -, hj, rfl⟩ := inI_n (by decide) (by decide) c1.1
    rw [nI_clamp (show j < 2 ^ 31 by omega)]
    split
    · exact h
    · split
      · exact wg_ho hw h (by omega) (Or.inr ⟨t, ht, rfl⟩)
      · rename_i c3
        obtain ⟨i0, hi0, e0⟩ := (hw.2.2.1 j (by omega)).resolve_left c3
        split
        · exact wg_wts hw h ht ⟨fun q => absurd q (by decide), fun q => absurd q (by decide)⟩ (by rw [h6]; decide)
        · rename_i c4
          rw [e0] at c4 ⊢
          have hch := (wf_end hw t i0 hi0).resolve_left c4
          have hb := cnt_b hw (by omega) i0 200 hi0 hch
          dsimp only
          generalize cnt kf t 200 (nI i0) = z at hb ⊢
          have hi : ∀ j, 217 ≤ j → rgP kf t z (nI i0) z j = kf j := fun j hj => rgP_hi _ _ _ _ hj _ (by omega)
          have h5 := rgP_5 kf t z (nI i0) z
          have hl : ∀ j, j < 4 → rgP kf t z (nI i0) z j = kf j := fun j hj => rgP_lo _ _ _ _ hj _
          generalize rgP kf t z (nI i0) z = k' at hi h5 hl ⊢
          obtain ⟨g1, g2, g3, g4⟩ := h
          have nt : nT k' = nT kf := by unfold nT; rw [hl 1 (by omega)]
          unfold WG
          rw [nt, hl 0 (by omega)]
          exact ⟨fun s hs => (g1 s hs).cg (fun w hw => hi _ (by omega)) (fun i _ => hi _ (by omega)) rfl, fun l hl => by rw [hi _ (by omega)]; exact g2 l hl, ⟨z + 1, by omega, h5⟩, g4⟩
  · exact h
theorem wg_gv {kf : KF} {vf : VF} {c B n t : Nat} {q : Int32} (hw : WF kf n) (h : WG kf vf c B) : WG (gvF kf vf t q).2 vf c B := by
  unfold gvF
  split
  · rename_i c1
    obtain ⟨j, -, hj, rfl⟩ := inI_n (by decide) (by decide) c1.1
    rw [nI_clamp (show j < 2 ^ 31 by omega)]
    split
    · exact wg_ps hw h (by omega)
    · exact h
  · exact h
theorem wg_ad {kf : KF} {vf : VF} {c B n : Nat} {a b s p q : Int32} {y : Int64} (hw : WF kf n) (h : WG kf vf c B) (hn : n < 200) (hc : ∃ k, 1 ≤ k ∧ k ≤ 1000 ∧ s = nI k) (hp : ∃ k, 1 ≤ k ∧ k ≤ 1000 ∧ p = nI k) (hq : ¬ (a = 1 ∨ a = 2) → q = 0) (hy : ∃ x, y = lN x ∧ x ≤ B) : WG (adK kf n a b s p q) (vp_updL vf n y) c B := by
  obtain ⟨g1, g2, g3, k, g4, g5, g6⟩ := h
  have hnt := hw.nt
  have e : ∀ i, (i < 400 + 20 * n ∨ 400 + 20 * n + 20 ≤ i) → i ≠ 1 → adK kf n a b s p q i = kf i := fun i hi q => adK_at kf n a b s p _ i hi q
  have nt : nT (adK kf n a b s p q) = n + 1 := nT_of (adK_1 _ _ _ _ _ _ _) (by omega)
  unfold WG
  rw [nt, e 5 (by omega) (by omega), e 0 (by omega) (by omega)]
  refine ⟨fun t ht => ?_, fun l hl => ?_, g3, k, g4, g5, g6⟩
  · by_cases z : t = n
    · subst z
      obtain ⟨k0, -, k2, k3, k4, -, k6, k7, k8, -, k10, k11, k12, k13, k14⟩ := adK_kg kf t a b s p q
      obtain ⟨z1, z2, z3, rfl⟩ := hc
      obtain ⟨z4, z5, z6, rfl⟩ := hp
      obtain ⟨x, rfl, hx⟩ := hy
      have m : mny (adK kf t a b (nI z1) (nI z4) q) t = 0 := by unfold mny; rw [k14]; decide
      unfold TG gH
      rw [k0, k2, k3, k4, k6, k7, k8, k10, k11, k12, k13, m, g4, nI_add]
      refine ⟨⟨fun _ => ⟨rfl, rfl⟩, fun q => absurd q (by decide)⟩, by decide, ⟨0, z1, rfl, rfl, by omega, z3⟩, ⟨z4, z5, z6, rfl⟩, ⟨fun z => ⟨hq z, hq z⟩, k + z4, rfl, by omega, fun _ _ => by omega⟩, ⟨x, by simp [vp_updL], hx⟩, fun i hi => absurd hi (Nat.not_lt_zero _)⟩
    · exact (g1 t (by omega)).cg (fun w hw => e _ (by omega) (by omega)) (fun i hi => e _ (by omega) (by omega)) (by simp [vp_updL, z])
  · rw [e _ (by omega) (by omega)]
    rcases g2 l hl with z | z | ⟨i, hi, z⟩
    · exact Or.inl z
    · exact Or.inr (Or.inl z)
    · exact Or.inr (Or.inr ⟨i, by omega, z⟩)
theorem lv_b {kf : KF} {vf : VF} {n B : Nat} (h : ∀ t, t < n → ∃ x, vf t = lN x ∧ x ≤ B) : ∃ x, (lvF kf vf n).2 = lN x ∧ x ≤ B := by
  unfold lvF
  induction n with
  | zero => exact ⟨0, rfl, Nat.zero_le _⟩
  | succ n ih =>
    have h1 := ih (fun t ht => h t (by omega))
    show ∃ x, (lvS kf vf n (lp (lvS kf vf) n (false, 0))).2 = lN x ∧ x ≤ B
    generalize lp (lvS kf vf) n (false, 0) = s at h1 ⊢
    unfold lvS
    split
    · exact h1
    · exact h n (by omega)
theorem WG.vb {kf : KF} {vf : VF} {c B n : Nat} (hw : WF kf n) (h : WG kf vf c B) : ∀ t, t < n → ∃ x, vf t = lN x ∧ x ≤ B := fun t ht => (h.at hw ht).2.2.2.2.2.1
theorem wg_fk {kf : KF} {vf : VF} {c B n t : Nat} {q : Int32} (hw : WF kf n) (h : WG kf vf c B) (ht : t < n) : WG (fkF kf vf t q).2.1 (fkF kf vf t q).2.2 c B := by
  have hn2 := hw.1.2
  unfold fkF
  split
  · split
    · exact h
    · rename_i c2
      rw [hw.nt]
      have hn3 : n < 200 := Nat.lt_of_le_of_ne hn2 (fun z => c2 (by rw [hw.1.1, z]; rfl))
      obtain ⟨-, -, -, hp, ⟨hd, -⟩, -⟩ := h.at hw ht
      exact wg_ad hw h hn3 (hw.2.2.2.2.1 t ht).2.1 hp (fun z => (hd z).1) (lv_b (h.vb hw))
  · exact h
theorem isOf_due {k : Int32} (h : isOfB k 1 = true) : k = 1 ∨ k = 2 := by
  simp [isOfB] at h
  rcases h with h | h
  · exact Or.inl h.symm
  · exact Or.inr h
theorem isOf_due2 {k : Int32} (h : isOfB k 2 = true) : k = 1 ∨ k = 2 := by
  simp [isOfB] at h
  exact Or.inr h.symm
theorem wg_sy {kf : KF} {vf : VF} {c B n t : Nat} {q : Int32} (hw : WF kf n) (h : WG kf vf c B) (ht : t < n) : WG (syF kf t q).2 vf c B := by
  unfold syF
  split
  · split
    · rename_i c2
      dsimp only
      split
      · rename_i c3
        refine wg_13 hw h ht (due_iff.mpr ?_)
        rcases c3 with rfl | rfl
        · exact isOf_due c2
        · exact isOf_due2 c2
      · exact h
    · exact h
  · exact h
theorem lpS_in (k0 : KF) (t i : Nat) : ∀ c, i < c → lp (fun w k => upd k (4400 + 128 * t + w) (nI 0)) c k0 (4400 + 128 * t + i) = nI 0 := by
  intro c
  induction c with
  | zero => intro h; exact absurd h (Nat.not_lt_zero _)
  | succ c ih =>
    intro h
    show upd (lp (fun w k => upd k (4400 + 128 * t + w) (nI 0)) c k0) (4400 + 128 * t + c) (nI 0) (4400 + 128 * t + i) = nI 0
    by_cases e : i = c
    · subst e
      exact upd_eq _ _ _
    · rw [upd_ne _ _ (by omega)]
      exact ih (by omega)
theorem wg_sm {kf : KF} {vf : VF} {c B n t : Nat} {op q : Int32} (hw : WF kf n) (h : WG kf vf c B) (ht : t < n) (hq : q ≤ nI 127) : WG (smF kf t op q).2 vf c B := by
  have hn2 := hw.1.2
  unfold smF
  split
  · split
    · split
      · exact h
      · rename_i c3
        obtain ⟨b, hb, rfl⟩ := nI_of c3
        have hb2 : b ≤ 127 := by have := by_le hq b rfl; omega
        rw [nI_clamp hb]
        dsimp only
        have e1 : ∀ i, (i < 4400 + 128 * t ∨ 4400 + 128 * t + 128 ≤ i) → lp (fun w k => upd k (4400 + 128 * t + w) (nI 0)) b (ks kf t 14 (nI b)) i = ks kf t 14 (nI b) i := fun i hi => lpS_at _ _ _ b (by omega) hi
        have e2 : ∀ i, i < b → lp (fun w k => upd k (4400 + 128 * t + w) (nI 0)) b (ks kf t 14 (nI b)) (4400 + 128 * t + i) = nI 0 := fun i hi => lpS_in _ _ _ b hi
        generalize lp (fun w k => upd k (4400 + 128 * t + w) (nI 0)) b (ks kf t 14 (nI b)) = k' at e1 e2 ⊢
        have g : ∀ w, w < 20 → w ≠ 14 → kg k' t w = kg kf t w := fun w hw h14 => by
          unfold kg
          rw [e1 _ (by omega)]
          exact ks_at _ _ _ _ _ (by omega)
        have g14 : kg k' t 14 = nI b := by
          unfold kg
          rw [e1 _ (by omega)]
          exact upd_eq _ _ _
        refine h.one hw (t := t) (fun i hi q1 q2 => ?_) (fun _ _ => rfl) (by omega) (Nat.le_refl _) ?_
        · rw [e1 _ (by omega)]
          exact ks_at _ _ _ _ _ (by omega)
        · obtain ⟨h1, h2, h3, h4, h5, h6, h7⟩ := h.at hw ht
          have m : mny k' t = b := by unfold mny; rw [g14, nI_clamp hb]
          unfold TG gH
          rw [g 6 (by decide) (by omega), g 7 (by decide) (by omega), g 8 (by decide) (by omega), g 4 (by decide) (by omega), g 2 (by decide) (by omega), g 3 (by decide) (by omega), g 10 (by decide) (by omega), g 0 (by decide) (by omega), g 11 (by decide) (by omega), g 12 (by decide) (by omega), g 13 (by decide) (by omega), m]
          exact ⟨h1, h2, h3, h4, h5, h6, fun i hi => ⟨0, by rw [e2 i hi]; rfl⟩⟩
    · exact h
  · split
    · exact h
    · split
      · rename_i c3
        obtain ⟨b, hb, hb3, rfl⟩ : ∃ b, b < 127 ∧ b < mny kf t ∧ q = nI b := by
          rcases hw.hm t ht with z | ⟨c, hc, z⟩
          · exact absurd c3 (fun y => inc_m z y)
          · obtain ⟨k, hk, e⟩ := inc_n z (by omega) c3
            exact ⟨k, by omega, by unfold mny; rw [z, nI_clamp (by omega)]; exact hk, e⟩
        rw [nI_clamp (show b < 2 ^ 31 by omega)]
        split
        · dsimp only
          have e : ∀ i, i ≠ 4400 + 128 * t + b → upd kf (4400 + 128 * t + b) (kf 0).toInt16.toInt32 i = kf i := fun i hi => upd_ne _ _ hi
          refine h.one hw (t := t) (fun i hi q1 q2 => e i (by omega)) (fun _ _ => rfl) (by omega) (Nat.le_refl _) ?_
          have g : ∀ w, w < 20 → kg (upd kf (4400 + 128 * t + b) (kf 0).toInt16.toInt32) t w = kg kf t w := fun w hw => e _ (by omega)
          obtain ⟨h1, h2, h3, h4, h5, h6, h7⟩ := h.at hw ht
          have m : mny (upd kf (4400 + 128 * t + b) (kf 0).toInt16.toInt32) t = mny kf t := by unfold mny; rw [g 14 (by decide)]
          unfold TG gH
          rw [g 6 (by decide), g 7 (by decide), g 8 (by decide), g 4 (by decide), g 2 (by decide), g 3 (by decide), g 10 (by decide), g 0 (by decide), g 11 (by decide), g 12 (by decide), g 13 (by decide), m]
          refine ⟨h1, h2, h3, h4, h5, h6, fun i hi => ?_⟩
          by_cases z : i = b
          · subst z
            exact ⟨_, upd_eq _ _ _⟩
          · rw [e _ (by omega)]
            exact h7 i hi
        · dsimp only
          split
          · rename_i c5
            exact wg_4 hw h ht (Int32.not_lt.mpr (Int32.le_of_lt c5))
          · exact h
      · exact h
theorem wg_O {kf : KF} {vf : VF} {c B n t : Nat} {op q : Int32} (hw : WF kf n) (h : WG kf vf c B) (ht : t < n) (h6 : kg kf t 6 = 0) (hq : q ≤ nI 127) : WG (acO kf vf t op q).2.1 (acO kf vf t op q).2.2 c B := by
  have hn2 := hw.1.2
  have h64 : ¬ kg kf t 6 = 4 := by rw [h6]; decide
  unfold acO
  split
  · dsimp only
    split
    · rename_i z
      exact wg_4 hw h ht (Int32.not_lt.mpr (Int32.le_of_lt z))
    · exact h
  · split
    · exact wg_tk hw h ht h6
    · split
      · exact wg_gv hw h
      · split
        · split
          · exact wg_wts hw h ht ⟨fun q => absurd q (by decide), fun q => absurd q (by decide)⟩ h64
          · exact h
        · split
          · split
            · have := wg_rg (b := q) hw h n (Nat.le_refl _)
              have e : rgF kf q = lp (rgS q) n (kf, 0) := by rw [rgF, hw.nt]
              dsimp only
              rw [e]
              exact this
            · exact h
          · split
            · split
              · rename_i z
                obtain ⟨b, hb, rfl⟩ := nI_of (Int32.not_lt.mpr (Int32.le_of_lt z))
                have hb1 : b ≤ 127 := by have := by_le hq b rfl; omega
                have hb0 : 0 < b := by
                  have := Int32.lt_iff_toInt_lt.mp z
                  rw [nI_toInt hb] at this
                  have e0 : (0 : Int32).toInt = 0 := rfl
                  omega
                obtain ⟨k, g4, g5, g6⟩ := h.2.2.2
                exact wg_wts hw h ht ⟨fun q => absurd q (by decide), fun _ => ⟨k + b, by rw [g4, nI_add], by omega, by omega⟩⟩ h64
              · exact h
            · split
              · exact wg_fk hw h ht
              · split
                · exact wg_sy hw h ht
                · split
                  · exact h
                  · exact wg_sm hw h ht hq
theorem wg_act {kf : KF} {vf : VF} {c B n t : Nat} (hw : WF kf n) (h : WG kf vf c B) (ht : t < n) (h6 : kg kf t 6 = 0) : WG (actF kf vf t).2.1 (actF kf vf t).2.2 c B := by
  obtain ⟨⟨p, hp, ep⟩, -, ⟨a, ha, ea⟩, -⟩ := hw.2.2.2.2.1 t ht
  rw [act_G ep ea (by omega) (by omega)]
  unfold acG
  split
  · exact h
  · split
    · have hl := plen_le hw.2.2.2.2.2.1 hp
      split
      · split
        · exact h
        · split
          · refine wg_O hw h ht h6 ?_
            rw [show 30000 + 1000 * p + a + 1 = 30000 + (1000 * p + a + 1) by omega]
            exact hw.2.2.2.2.2.2.1 _ (by omega)
          · exact h
      · exact h
    · exact h
theorem wg_edL {kf : KF} {vf : VF} {c B n t : Nat} {q : Int32} (hw : WF kf n) (h : WG kf vf c B) (ht : t < n) : ∀ i, i ≤ 100 → WG (edL kf vf t q i) vf c B := by
  intro i
  induction i with
  | zero => intro _; exact wg_ed0 hw h ht
  | succ i ih =>
    intro hi
    have h1 := ih (by omega)
    have h2 := wf_edL (vf := vf) (q := q) hw ht i (by omega)
    show WG (edS vf t i (edL kf vf t q i)) vf c B
    unfold edS
    split
    · exact wg_ps h2 h1 (by omega)
    · exact h1
