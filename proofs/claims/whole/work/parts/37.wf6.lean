/-! an ACT, op by op -/
/-- what an act leaves: a well-formed state, the place, and (if it doesn't wait) the acting task ready -/
def Lf (kf k' : KF) (n t : Nat) (r : Int32) : Prop := (∃ n', n ≤ n' ∧ WF k' n') ∧ kg k' t 5 = kg kf t 5 ∧ (¬ r = -1 → kg k' t 6 = kg kf t 6)
theorem Lf.same {kf : KF} {n t : Nat} {r : Int32} (h : WF kf n) : Lf kf kf n t r := ⟨⟨n, Nat.le_refl _, h⟩, rfl, fun _ => rfl⟩
theorem lf_tk {kf : KF} {n t : Nat} {q : Int32} (h : WF kf n) (ht : t < n) (h6 : kg kf t 6 = 0) : Lf kf (tkF kf t q).2 n t (tkF kf t q).1 := by
  have hn2 := h.1.2
  unfold tkF
  split
  · rename_i c1
    obtain ⟨j, -, hj, rfl⟩ := inI_n (by decide) (by decide) c1.1
    rw [nI_clamp (show j < 2 ^ 31 by omega)]
    split
    · exact Lf.same h
    · split
      · rename_i c3
        exact ⟨⟨n, Nat.le_refl _, wf_hold h (by omega) (Or.inr ⟨t, ht, rfl⟩) (noW h (by omega) c3)⟩, kg_hold _ _ _ (by omega) _ _, fun _ => kg_hold _ _ _ (by omega) _ _⟩
      · rename_i c3
        obtain ⟨i0, hi0, e0⟩ := (h.2.2.1 j (by omega)).resolve_left c3
        split
        · rename_i c4
          exact ⟨⟨n, Nat.le_refl _, wf_wait h ht (by rw [h6]; decide) (by omega) hi0 e0 (by rw [← e0]; exact c4)⟩, wts_oth _ _ _ _ _ _ _ (by decide) (by omega), fun z => absurd rfl z⟩
        · have hc := cnt_le kf t 200 (kf (240 + j))
          have hk : ∀ w, kg (rgP kf t (cnt kf t 200 (kf (240 + j))) (kf (240 + j)) (cnt kf t 200 (kf (240 + j)))) t w = kg kf t w := fun w => rgP_hi _ _ _ _ (by omega) _ hc
          refine ⟨⟨n, Nat.le_refl _, wf_congr h (fun i hi => ?_)⟩, hk 5, fun _ => hk 6⟩
          rcases Nat.lt_or_ge i 4 with z | z
          · exact rgP_lo _ _ _ _ z _
          · exact rgP_hi _ _ _ _ (by unfold rel at hi; omega) _ hc
  · exact Lf.same h
theorem lf_gv {kf : KF} {vf : VF} {n t : Nat} {q : Int32} (h : WF kf n) (h6 : kg kf t 6 = 0) : Lf kf (gvF kf vf t q).2 n t (gvF kf vf t q).1 := by
  unfold gvF
  split
  · rename_i c1
    obtain ⟨j, -, hj, rfl⟩ := inI_n (by decide) (by decide) c1.1
    rw [nI_clamp (show j < 2 ^ 31 by omega)]
    split
    · have e6 : ¬ kg (upd kf (240 + j) (-1)) t 6 = 1 := by rw [kg_hold _ _ _ (by omega), h6]; decide
      exact ⟨⟨n, Nat.le_refl _, wf_ps h (by omega)⟩, by rw [ps_oth (by decide) (by omega) e6, kg_hold _ _ _ (by omega)], fun _ => by rw [ps_oth (by decide) (by omega) e6, kg_hold _ _ _ (by omega)]⟩
    · exact Lf.same h
  · exact Lf.same h
theorem lf_fk {kf : KF} {vf : VF} {n t : Nat} {q : Int32} (h : WF kf n) (ht : t < n) : Lf kf (fkF kf vf t q).2.1 n t (fkF kf vf t q).1 := by
  have hn2 := h.1.2
  unfold fkF
  split
  · rename_i c1
    obtain ⟨j, -, hj, rfl⟩ := inI_n (by decide) (by decide) c1
    split
    · exact Lf.same h
    · rename_i c2
      rw [h.nt]
      have hn3 : n < 200 := Nat.lt_of_le_of_ne hn2 (fun z => c2 (by rw [h.1.1, z]; rfl))
      have hs := (h.2.2.2.2.1 t ht).2.1
      exact ⟨⟨n + 1, Nat.le_succ _, wf_ad h hn3 ⟨j, by omega, rfl⟩ hs⟩, adK_at _ _ _ _ _ _ _ _ (by omega) (by omega), fun _ => adK_at _ _ _ _ _ _ _ _ (by omega) (by omega)⟩
  · exact Lf.same h
theorem lf_sy {kf : KF} {n t : Nat} {q : Int32} (h : WF kf n) (ht : t < n) : Lf kf (syF kf t q).2 n t (syF kf t q).1 := by
  have hn2 := h.1.2
  unfold syF
  split
  · split
    · dsimp only
      split
      · exact ⟨⟨n, Nat.le_refl _, wf_ks h (by decide) (by omega)⟩, kg_ne _ _ _ _ _ _ (by decide) (by decide) (by decide), fun _ => kg_ne _ _ _ _ _ _ (by decide) (by decide) (by decide)⟩
      · exact Lf.same h
    · exact Lf.same h
  · exact Lf.same h
theorem lpS_at (k0 : KF) (t i : Nat) : ∀ c, c ≤ 128 → (i < 4400 + 128 * t ∨ 4400 + 128 * t + 128 ≤ i) → lp (fun w k => upd k (4400 + 128 * t + w) (nI 0)) c k0 i = k0 i := by
  intro c
  induction c with
  | zero => intro _ _; rfl
  | succ c ih =>
    intro hc hi
    show upd (lp (fun w k => upd k (4400 + 128 * t + w) (nI 0)) c k0) (4400 + 128 * t + c) (nI 0) i = k0 i
    rw [upd_ne _ _ (by omega)]
    exact ih (by omega) hi
theorem rel_sm {t i : Nat} (ht : t < 200) (h : rel i) : i < 4400 + 128 * t ∨ 4400 + 128 * t + 128 ≤ i := by
  unfold rel at h
  rcases h with h | h | h | h | h | ⟨j, w, hj, hw, h⟩ <;> omega
theorem lf_sm {kf : KF} {n t : Nat} {op q : Int32} (h : WF kf n) (ht : t < n) (hq : q ≤ nI 127) : Lf kf (smF kf t op q).2 n t (smF kf t op q).1 := by
  have hn2 := h.1.2
  have kt : ∀ w, w < 20 → 400 + 20 * t + w < 4400 := fun w hw => by omega
  unfold smF
  split
  · split
    · split
      · exact Lf.same h
      · rename_i c3
        obtain ⟨b, hb, rfl⟩ := nI_of c3
        have hb2 : b ≤ 127 := by have := by_le hq b rfl; omega
        rw [nI_clamp hb]
        have h1 : WF (ks kf t 14 (nI b)) n := by
          refine wf_tk h ht (w := 14) (by omega) (fun i hi => ks_at _ _ _ _ _ hi) ?_
          obtain ⟨a1, a2, a3, -⟩ := h.2.2.2.2.1 t ht
          unfold TK
          rw [kg_ne _ _ _ _ _ _ (by decide) (by decide) (by decide), kg_ne _ _ _ _ _ _ (by decide) (by decide) (by decide), kg_ne _ _ _ _ _ _ (by decide) (by decide) (by decide), kg_eq]
          exact ⟨a1, a2, a3, Or.inr ⟨b, hb2, rfl⟩⟩
        have e : ∀ w, w < 20 → w ≠ 14 → kg (lp (fun w k => upd k (4400 + 128 * t + w) (nI 0)) b (ks kf t 14 (nI b))) t w = kg kf t w := fun w hw h14 => by
          unfold kg
          rw [lpS_at _ _ _ b (by omega) (by omega)]
          exact ks_at _ _ _ _ _ (by omega)
        exact ⟨⟨n, Nat.le_refl _, wf_congr h1 (fun i hi => lpS_at _ _ _ b (by omega) (rel_sm (by omega) hi))⟩, e 5 (by decide) (by decide), fun _ => e 6 (by decide) (by decide)⟩
    · exact Lf.same h
  · split
    · exact Lf.same h
    · split
      · rename_i c3
        obtain ⟨b, hb, rfl⟩ : ∃ b, b < 127 ∧ q = nI b := by
          rcases h.hm t ht with z | ⟨c, hc, z⟩
          · exact absurd c3 (fun y => inc_m z y)
          · obtain ⟨k, hk, e⟩ := inc_n z (by omega) c3
            exact ⟨k, by omega, e⟩
        rw [nI_clamp (show b < 2 ^ 31 by omega)]
        split
        · have e : ∀ w, w < 20 → kg (upd kf (4400 + 128 * t + b) (kf 0).toInt16.toInt32) t w = kg kf t w := fun w hw => upd_ne _ _ (by omega)
          exact ⟨⟨n, Nat.le_refl _, wf_upd h (fun z => by have := rel_sm (t := t) (by omega) z; omega)⟩, e 5 (by decide), fun _ => e 6 (by decide)⟩
        · dsimp only
          split
          · exact ⟨⟨n, Nat.le_refl _, wf_ks h (by decide) (by omega)⟩, kg_ne _ _ _ _ _ _ (by decide) (by decide) (by decide), fun _ => kg_ne _ _ _ _ _ _ (by decide) (by decide) (by decide)⟩
          · exact Lf.same h
      · exact Lf.same h
theorem lf_O {kf : KF} {vf : VF} {n t : Nat} {op q : Int32} (h : WF kf n) (ht : t < n) (h6 : kg kf t 6 = 0) (hq : q ≤ nI 127) : Lf kf (acO kf vf t op q).2.1 n t (acO kf vf t op q).1 := by
  have hn2 := h.1.2
  unfold acO
  split
  · dsimp only
    split
    · exact ⟨⟨n, Nat.le_refl _, wf_ks h (by decide) (by omega)⟩, kg_ne _ _ _ _ _ _ (by decide) (by decide) (by decide), fun _ => kg_ne _ _ _ _ _ _ (by decide) (by decide) (by decide)⟩
    · exact Lf.same h
  · split
    · exact lf_tk h ht h6
    · split
      · exact lf_gv h h6
      · split
        · split
          · exact ⟨⟨n, Nat.le_refl _, wf_wts h ht (by decide)⟩, wts_oth _ _ _ _ _ _ _ (by decide) (by omega), fun z => absurd rfl z⟩
          · exact Lf.same h
        · split
          · split
            · have hw := wf_rg (b := q) h n (Nat.le_refl _)
              have ho := fun v hv => rg_oth (kf := kf) (b := q) (t := t) (v := v) hv (by rw [h6]; decide) n
              have e : rgF kf q = lp (rgS q) n (kf, 0) := by rw [rgF, h.nt]
              dsimp only
              rw [e]
              exact ⟨⟨n, Nat.le_refl _, hw⟩, (ho 5 (by decide)).1, fun _ => (ho 6 (by decide)).1⟩
            · exact Lf.same h
          · split
            · split
              · exact ⟨⟨n, Nat.le_refl _, wf_wts h ht (by decide)⟩, wts_oth _ _ _ _ _ _ _ (by decide) (by omega), fun z => absurd rfl z⟩
              · exact Lf.same h
            · split
              · exact lf_fk h ht
              · split
                · exact lf_sy h ht
                · split
                  · exact Lf.same h
                  · exact lf_sm h ht hq
theorem lf_act {kf : KF} {vf : VF} {n t : Nat} (h : WF kf n) (ht : t < n) (h6 : kg kf t 6 = 0) : Lf kf (actF kf vf t).2.1 n t (actF kf vf t).1 := by
  obtain ⟨⟨p, hp, ep⟩, -, ⟨a, ha, ea⟩, -⟩ := h.2.2.2.2.1 t ht
  rw [act_G ep ea (by omega) (by omega)]
  unfold acG
  split
  · exact Lf.same h
  · split
    · rename_i c2
      have hl := plen_le h.2.2.2.2.2.1 hp
      split
      · split
        · exact Lf.same h
        · split
          · refine lf_O h ht h6 ?_
            rw [show 30000 + 1000 * p + a + 1 = 30000 + (1000 * p + a + 1) by omega]
            exact h.2.2.2.2.2.2.1 _ (by omega)
          · exact Lf.same h
      · exact Lf.same h
    · exact Lf.same h
