/-! sizes change -/
section KW3
variable {Z : Mem × YY} {m : Mem} {Y : YY} {ρ n : Nat} {kf k' : KF} {vf v' : VF} {x : Int32}
/-- a place keeps its number and its spot -/
theorem KV.keep {f r j j0 : Nat} (hT : KT m Y) (h : KV m Y ρ kf vf n) (hρ : 62000 ≤ ρ) (h0 : Rl ρ kf n j0) (hl : lr ρ j0 = (0, f, r)) (hj : Rl ρ kf n j) (e : k' j = kf j) (hne : j ≠ j0) : rd (sI m f (Y.1 r) x) (lo Y ρ j) = k' j := by
  rw [rd_sI, if_neg, e]
  · exact h.r hρ j hj
  · intro q
    refine hne (lo_inj hT h hρ hj h0 ?_)
    rw [q, lo, hl]
theorem KQ.row (h : KQ Z m Y ρ kf vf n) (hρ : 62000 ≤ ρ) {c : Nat} (h3 : kf 3 = nI c) (hc : c < 8000) (hN : 5 * (c + 1) ≤ gN m (Y.1 4)) (hk : ∀ j, j < 62000 → j ≠ 3 → k' j = kf j) (h3' : k' 3 = nI (c + 1)) (hr : ∀ i, i < 5 * (c + 1) → aI m (Y.1 4) i = k' (ρ + i)) : KQ Z (sI m 60 (Y.1 3) (nI (c + 1))) Y ρ k' vf n := by
  have hT' : KT (sI m 60 (Y.1 3) (nI (c + 1))) Y := h.1.sI (by omega)
  have hn := h.n2
  have ep : ∀ p, p < 32 → plen k' p = plen kf p := fun p hp => congrArg Int32.toNatClampNeg (hk _ (by omega) (by omega))
  have et : ∀ t, t < n → ∀ w, w < 20 → kg k' t w = kg kf t w := fun t ht w hw => hk _ (by omega) (by omega)
  refine ⟨hT', KV.of hρ hT' (fun j hj => ?_) (fun t ht => (h.2.1.2.2.2.1 t ht).2.1) (fun t ht h0 => ?_) (fun p hp => ?_) ?_ ?_ hn, h.2.2.sI (h.1.ow (by omega)) (by omega)⟩
  · by_cases e3 : j = 3
    · subst e3
      rw [lo, lr_k (by omega), h3', rd_sI]
      exact if_pos rfl
    · have K : ∀ q, Rl ρ kf n j → k' j = q → rd (sI m 60 (Y.1 3) (nI (c + 1))) (lo Y ρ j) = k' j := fun q hq _ => by
        by_cases e : j < 62000
        · exact h.2.1.keep h.1 hρ (j0 := 3) (by unfold Rl; omega) (lr_k (by omega)) hq (hk j e e3) e3
        · rcases hq with z | z | z | z | z | ⟨t, w, z1, z2, z⟩ | ⟨t, w, z1, z0, z2, z3, z⟩ | ⟨p, w, z1, z2, z3, z⟩ | ⟨w, z1, z2, rfl⟩
          all_goals first
          | omega
          | (rw [h3, nI_clamp (by omega)] at z1
             rw [← hr w (by omega), lo, lr_r hρ]
             rfl)
      rcases hj with z | z | z | z | z | ⟨t, w, z1, z2, z⟩ | ⟨t, w, z1, z0, z2, z3, z⟩ | ⟨p, w, z1, z2, z3, z⟩ | ⟨w, z1, z2, rfl⟩
      · exact K _ (Or.inl z) rfl
      · exact K _ (Or.inr (Or.inl z)) rfl
      · rw [hk 5 (by omega) (by omega)] at z
        exact K _ (Or.inr (Or.inr (Or.inl z))) rfl
      · exact K _ (Or.inr (Or.inr (Or.inr (Or.inl z)))) rfl
      · exact K _ (Or.inr (Or.inr (Or.inr (Or.inr (Or.inl z))))) rfl
      · exact K _ (Or.inr (Or.inr (Or.inr (Or.inr (Or.inr (Or.inl ⟨t, w, z1, z2, z⟩)))))) rfl
      · rw [et t z1 14 (by omega)] at z0 z2
        exact K _ (Or.inr (Or.inr (Or.inr (Or.inr (Or.inr (Or.inr (Or.inl ⟨t, w, z1, z0, z2, z3, z⟩))))))) rfl
      · rw [ep p z1] at z2
        exact K _ (Or.inr (Or.inr (Or.inr (Or.inr (Or.inr (Or.inr (Or.inr (Or.inl ⟨p, w, z1, z2, z3, z⟩)))))))) rfl
      · rw [h3', nI_clamp (by omega)] at z1
        rw [← hr w z1, lo, lr_r hρ]
        rfl
  · rw [et t ht 14 (by omega)] at h0 ⊢
    exact ⟨((h.2.1.2.2.2.1 t ht).2.2 h0).1, ((h.2.1.2.2.2.1 t ht).2.2 h0).2.1⟩
  · rw [ep p hp]
    exact (h.2.1.2.2.1 p hp).2.1
  · rw [h3', nI_clamp (by omega)]
    exact hN
  · rw [hk 1 (by omega) (by omega)]
    exact h.n1
/-- how long a program is -/
theorem KQ.psz (h : KQ Z m Y ρ kf vf n) (hρ : 62000 ≤ ρ) {p : Nat} (hp : p < 32) (hN : x.toNatClampNeg ≤ gN m (Y.1 (241 + p))) (hk : ∀ j, j ≠ 340 + p → ¬ (30000 + 1000 * p ≤ j ∧ j < 31000 + 1000 * p) → k' j = kf j) (hx : k' (340 + p) = x) (hr : ∀ i, i < x.toNatClampNeg → aI m (Y.1 (241 + p)) i = k' (30000 + 1000 * p + i)) : KQ Z (sI m 40 (Y.1 (209 + p)) x) Y ρ k' vf n := by
  have hT' : KT (sI m 40 (Y.1 (209 + p)) x) Y := h.1.sI (by omega)
  have hn := h.n2
  have pe : plen k' p = x.toNatClampNeg := by unfold plen; rw [hx]
  have lb := (h.1.2.2.2.1 p hp).2.2
  have ep : ∀ q, q < 32 → q ≠ p → plen k' q = plen kf q := fun q hq z => congrArg Int32.toNatClampNeg (hk _ (by omega) (by omega))
  have et : ∀ t, t < n → ∀ w, w < 20 → kg k' t w = kg kf t w := fun t ht w hw => hk _ (by omega) (by omega)
  refine ⟨hT', KV.of hρ hT' (fun j hj => ?_) (fun t ht => (h.2.1.2.2.2.1 t ht).2.1) (fun t ht h0 => ?_) (fun q hq => ?_) ?_ ?_ hn, h.2.2.sI (h.1.ow (by omega)) (by omega)⟩
  · by_cases e3 : j = 340 + p
    · subst e3
      rw [lo, lr_ps hp, hx, rd_sI, if_pos rfl]
    · have K : Rl ρ kf n j → ¬ (30000 + 1000 * p ≤ j ∧ j < 31000 + 1000 * p) → rd (sI m 40 (Y.1 (209 + p)) x) (lo Y ρ j) = k' j := fun hq hb => h.2.1.keep h.1 hρ (j0 := 340 + p) (by unfold Rl; omega) (lr_ps hp) hq (hk j e3 hb) e3
      rcases hj with z | z | z | z | z | ⟨t, w, z1, z2, z⟩ | ⟨t, w, z1, z0, z2, z3, z⟩ | ⟨q, w, z1, z2, z3, rfl⟩ | ⟨w, z1, z2, z⟩
      · exact K (Or.inl z) (by omega)
      · exact K (Or.inr (Or.inl z)) (by omega)
      · rw [hk 5 (by omega) (by omega)] at z
        exact K (Or.inr (Or.inr (Or.inl z))) (by omega)
      · exact K (Or.inr (Or.inr (Or.inr (Or.inl z)))) (by omega)
      · exact K (Or.inr (Or.inr (Or.inr (Or.inr (Or.inl z))))) (by omega)
      · exact K (Or.inr (Or.inr (Or.inr (Or.inr (Or.inr (Or.inl ⟨t, w, z1, z2, z⟩)))))) (by omega)
      · rw [et t z1 14 (by omega)] at z0 z2
        exact K (Or.inr (Or.inr (Or.inr (Or.inr (Or.inr (Or.inr (Or.inl ⟨t, w, z1, z0, z2, z3, z⟩))))))) (by omega)
      · by_cases e : q = p
        · subst e
          rw [pe] at z2
          rw [← hr w z2, lo, lr_b hp z3]
          rfl
        · rw [ep q z1 e] at z2
          exact K (Or.inr (Or.inr (Or.inr (Or.inr (Or.inr (Or.inr (Or.inr (Or.inl ⟨q, w, z1, z2, z3, rfl⟩)))))))) (by omega)
      · rw [hk 3 (by omega) (by omega)] at z1
        exact K (Or.inr (Or.inr (Or.inr (Or.inr (Or.inr (Or.inr (Or.inr (Or.inr ⟨w, z1, z2, z⟩)))))))) (by omega)
  · rw [et t ht 14 (by omega)] at h0 ⊢
    exact ⟨((h.2.1.2.2.2.1 t ht).2.2 h0).1, ((h.2.1.2.2.2.1 t ht).2.2 h0).2.1⟩
  · by_cases e : q = p
    · subst e
      rw [pe]
      exact hN
    · rw [ep q hq e]
      exact (h.2.1.2.2.1 q hq).2.1
  · rw [hk 3 (by omega) (by omega)]
    exact h.2.1.2.2.2.2.1.1
  · rw [hk 1 (by omega) (by omega)]
    exact h.n1
/-- how many shorts a task has -/
theorem KQ.sc (h : KQ Z m Y ρ kf vf n) (hρ : 62000 ≤ ρ) {t : Nat} (ht : t < n) (hs : 0 ≤ x → gP m 97 (Y.1 (9 + t)) = some (Y.1 (273 + t)) ∧ x.toNatClampNeg ≤ 127 ∧ ∀ i, i < x.toNatClampNeg → aI m (Y.1 (273 + t)) i = k' (4400 + 128 * t + i)) (hk : ∀ j, j ≠ 400 + 20 * t + 14 → ¬ (4400 + 128 * t ≤ j ∧ j < 4400 + 128 * t + 128) → k' j = kf j) (hx : kg k' t 14 = x) : KQ Z (sI m 96 (Y.1 (9 + t)) x) Y ρ k' vf n := by
  have hT' : KT (sI m 96 (Y.1 (9 + t)) x) Y := h.1.sI (by omega)
  have hn := h.n2
  have ep : ∀ q, q < 32 → plen k' q = plen kf q := fun q hq => congrArg Int32.toNatClampNeg (hk _ (by omega) (by omega))
  have et : ∀ s, s < n → s ≠ t → kg k' s 14 = kg kf s 14 := fun s hs z => hk _ (by omega) (by omega)
  refine ⟨hT', KV.of hρ hT' (fun j hj => ?_) (fun t ht => (h.2.1.2.2.2.1 t ht).2.1) (fun s hs2 h0 => ?_) (fun q hq => ?_) ?_ ?_ hn, h.2.2.sI (h.1.ow (by omega)) (by omega)⟩
  · by_cases e3 : j = 400 + 20 * t + 14
    · subst e3
      rw [lo, lr_t (by omega) (by omega), rd_sI]
      exact (if_pos rfl).trans hx.symm
    · have K : Rl ρ kf n j → ¬ (4400 + 128 * t ≤ j ∧ j < 4400 + 128 * t + 128) → rd (sI m 96 (Y.1 (9 + t)) x) (lo Y ρ j) = k' j := fun hq hb => h.2.1.keep h.1 hρ (j0 := 400 + 20 * t + 14) (Or.inr (Or.inr (Or.inr (Or.inr (Or.inr (Or.inl ⟨t, 14, ht, by decide, rfl⟩)))))) (lr_t (by omega) (by omega)) hq (hk j e3 hb) e3
      rcases hj with z | z | z | z | z | ⟨s, w, z1, z2, z⟩ | ⟨s, w, z1, z0, z2, z3, rfl⟩ | ⟨q, w, z1, z2, z3, z⟩ | ⟨w, z1, z2, z⟩
      · exact K (Or.inl z) (by omega)
      · exact K (Or.inr (Or.inl z)) (by omega)
      · rw [hk 5 (by omega) (by omega)] at z
        exact K (Or.inr (Or.inr (Or.inl z))) (by omega)
      · exact K (Or.inr (Or.inr (Or.inr (Or.inl z)))) (by omega)
      · exact K (Or.inr (Or.inr (Or.inr (Or.inr (Or.inl z))))) (by omega)
      · exact K (Or.inr (Or.inr (Or.inr (Or.inr (Or.inr (Or.inl ⟨s, w, z1, z2, z⟩)))))) (by omega)
      · by_cases e : s = t
        · subst e
          rw [hx] at z0 z2
          rw [← (hs z0).2.2 w z2, lo, lr_s (by omega) (by omega)]
          rfl
        · rw [et s z1 e] at z0 z2
          exact K (Or.inr (Or.inr (Or.inr (Or.inr (Or.inr (Or.inr (Or.inl ⟨s, w, z1, z0, z2, z3, rfl⟩))))))) (by omega)
      · rw [ep q z1] at z2
        exact K (Or.inr (Or.inr (Or.inr (Or.inr (Or.inr (Or.inr (Or.inr (Or.inl ⟨q, w, z1, z2, z3, z⟩)))))))) (by omega)
      · rw [hk 3 (by omega) (by omega)] at z1
        exact K (Or.inr (Or.inr (Or.inr (Or.inr (Or.inr (Or.inr (Or.inr (Or.inr ⟨w, z1, z2, z⟩)))))))) (by omega)
  · by_cases e : s = t
    · subst e
      rw [hx] at h0 ⊢
      exact ⟨(hs h0).1, (hs h0).2.1⟩
    · rw [et s hs2 e] at h0 ⊢
      exact ⟨((h.2.1.2.2.2.1 s hs2).2.2 h0).1, ((h.2.1.2.2.2.1 s hs2).2.2 h0).2.1⟩
  · rw [ep q hq]
    exact (h.2.1.2.2.1 q hq).2.1
  · rw [hk 3 (by omega) (by omega)]
    exact h.2.1.2.2.2.2.1.1
  · rw [hk 1 (by omega) (by omega)]
    exact h.n1
/-- one task more -/
theorem KQ.ad (h : KQ Z m Y ρ kf vf n) (hρ : 62000 ≤ ρ) (hn3 : n < 200) (hk : ∀ j, j ≠ 1 → ¬ (400 + 20 * n ≤ j ∧ j < 400 + 20 * n + 20) → k' j = kf j) (h1' : k' 1 = nI (n + 1)) (hw : ∀ w, w < 15 → gI m (tf w) (Y.1 (9 + n)) = kg k' n w) (h14 : kg k' n 14 = -1) (hv : gL m 84 (Y.1 (9 + n)) = v' n) (hv2 : ∀ t, t < n → v' t = vf t) : KQ Z (sI m 7 (Y.1 0) (nI (n + 1))) Y ρ k' v' (n + 1) := by
  have hT' : KT (sI m 7 (Y.1 0) (nI (n + 1))) Y := h.1.sI (by omega)
  have ep : ∀ q, q < 32 → plen k' q = plen kf q := fun q hq => congrArg Int32.toNatClampNeg (hk _ (by omega) (by omega))
  have et : ∀ s, s < n → kg k' s 14 = kg kf s 14 := fun s hs => hk _ (by omega) (by omega)
  have neg : ¬ (0 : Int32) ≤ -1 := by decide
  refine ⟨hT', KV.of hρ hT' (fun j hj => ?_) (fun t ht => ?_) (fun s hs2 h0 => ?_) (fun q hq => ?_) ?_ ?_ hn3, h.2.2.sI (h.1.ow (by omega)) (by omega)⟩
  · by_cases e3 : j = 1
    · subst e3
      rw [lo, lr_k (by omega), h1', rd_sI]
      exact if_pos rfl
    · have K : Rl ρ kf n j → ¬ (400 + 20 * n ≤ j ∧ j < 400 + 20 * n + 20) → rd (sI m 7 (Y.1 0) (nI (n + 1))) (lo Y ρ j) = k' j := fun hq hb => h.2.1.keep h.1 hρ (j0 := 1) (by unfold Rl; omega) (lr_k (by omega)) hq (hk j e3 hb) e3
      rcases hj with z | z | z | z | z | ⟨s, w, z1, z2, rfl⟩ | ⟨s, w, z1, z0, z2, z3, rfl⟩ | ⟨q, w, z1, z2, z3, z⟩ | ⟨w, z1, z2, z⟩
      · exact K (Or.inl z) (by omega)
      · exact K (Or.inr (Or.inl z)) (by omega)
      · rw [hk 5 (by omega) (by omega)] at z
        exact K (Or.inr (Or.inr (Or.inl z))) (by omega)
      · exact K (Or.inr (Or.inr (Or.inr (Or.inl z)))) (by omega)
      · exact K (Or.inr (Or.inr (Or.inr (Or.inr (Or.inl z))))) (by omega)
      · by_cases e : s = n
        · subst e
          rw [lo, lr_t (by omega) z2]
          have := hw w z2
          have q := tf_n z2
          show gI (sI m 7 (Y.1 0) (nI (s + 1))) (tf w) (Y.1 (9 + s)) = _
          exact (u2_nf (gI m) _ (show tf w ≠ 7 by omega)).trans this
        · exact K (Or.inr (Or.inr (Or.inr (Or.inr (Or.inr (Or.inl ⟨s, w, by omega, z2, rfl⟩)))))) (by omega)
      · by_cases e : s = n
        · subst e
          rw [h14] at z0
          exact absurd z0 neg
        · rw [et s (by omega)] at z0 z2
          exact K (Or.inr (Or.inr (Or.inr (Or.inr (Or.inr (Or.inr (Or.inl ⟨s, w, by omega, z0, z2, z3, rfl⟩))))))) (by omega)
      · rw [ep q z1] at z2
        exact K (Or.inr (Or.inr (Or.inr (Or.inr (Or.inr (Or.inr (Or.inr (Or.inl ⟨q, w, z1, z2, z3, z⟩)))))))) (by omega)
      · rw [hk 3 (by omega) (by omega)] at z1
        exact K (Or.inr (Or.inr (Or.inr (Or.inr (Or.inr (Or.inr (Or.inr (Or.inr ⟨w, z1, z2, z⟩)))))))) (by omega)
  · by_cases e : t = n
    · subst e
      exact hv
    · rw [hv2 t (by omega)]
      exact (h.2.1.2.2.2.1 t (by omega)).2.1
  · by_cases e : s = n
    · subst e
      rw [h14] at h0
      exact absurd h0 neg
    · rw [et s (by omega)] at h0 ⊢
      exact ⟨((h.2.1.2.2.2.1 s (by omega)).2.2 h0).1, ((h.2.1.2.2.2.1 s (by omega)).2.2 h0).2.1⟩
  · rw [ep q hq]
    exact (h.2.1.2.2.1 q hq).2.1
  · rw [hk 3 (by omega) (by omega)]
    exact h.2.1.2.2.2.2.1.1
  · exact h1'
/-- how many are in the ring -/
theorem KQ.rs (h : KQ Z m Y ρ kf vf n) (hρ : 62000 ≤ ρ) {c : Nat} (hc : c ≤ 200) (hr : ∀ i, i < c → aI m (Y.1 7) i = kf (16 + i)) : KQ Z (sI m 10 (Y.1 0) (nI c)) Y ρ (upd kf 5 (nI c)) vf n := by
  have hT' : KT (sI m 10 (Y.1 0) (nI c)) Y := h.1.sI (by omega)
  have hn := h.n2
  have hk : ∀ j, j ≠ 5 → upd kf 5 (nI c) j = kf j := fun j hj => upd_ne _ _ hj
  have ep : ∀ q, q < 32 → plen (upd kf 5 (nI c)) q = plen kf q := fun q hq => congrArg Int32.toNatClampNeg (hk _ (by omega))
  have et : ∀ s, s < n → kg (upd kf 5 (nI c)) s 14 = kg kf s 14 := fun s hs => hk _ (by omega)
  refine ⟨hT', KV.of hρ hT' (fun j hj => ?_) (fun t ht => (h.2.1.2.2.2.1 t ht).2.1) (fun s hs2 h0 => ?_) (fun q hq => ?_) ?_ ?_ hn, h.2.2.sI (h.1.ow (by omega)) (by omega)⟩
  · by_cases e3 : j = 5
    · subst e3
      rw [lo, lr_k (by omega), upd_eq, rd_sI]
      exact if_pos rfl
    · have K : Rl ρ kf n j → rd (sI m 10 (Y.1 0) (nI c)) (lo Y ρ j) = upd kf 5 (nI c) j := fun hq => h.2.1.keep h.1 hρ (j0 := 5) (by unfold Rl; omega) (lr_k (by omega)) hq (hk j e3) e3
      rcases hj with z | z | z | z | z | ⟨s, w, z1, z2, rfl⟩ | ⟨s, w, z1, z0, z2, z3, rfl⟩ | ⟨q, w, z1, z2, z3, z⟩ | ⟨w, z1, z2, z⟩
      · exact K (Or.inl z)
      · exact K (Or.inr (Or.inl z))
      · rw [upd_eq] at z
        have e := lr_ri (ρ := ρ) (i := j - 16) (by omega)
        have e2 := hr (j - 16) ((nI_ltI (by omega) (by omega)).mp z.2.2)
        rw [show 16 + (j - 16) = j by omega] at e e2
        rw [hk j e3, ← e2, lo, e]
        rfl
      · exact K (Or.inr (Or.inr (Or.inr (Or.inl z))))
      · exact K (Or.inr (Or.inr (Or.inr (Or.inr (Or.inl z)))))
      · exact K (Or.inr (Or.inr (Or.inr (Or.inr (Or.inr (Or.inl ⟨s, w, by omega, z2, rfl⟩))))))
      · rw [et s (by omega)] at z0 z2
        exact K (Or.inr (Or.inr (Or.inr (Or.inr (Or.inr (Or.inr (Or.inl ⟨s, w, by omega, z0, z2, z3, rfl⟩)))))))
      · rw [ep q z1] at z2
        exact K (Or.inr (Or.inr (Or.inr (Or.inr (Or.inr (Or.inr (Or.inr (Or.inl ⟨q, w, z1, z2, z3, z⟩))))))))
      · rw [hk 3 (by omega)] at z1
        exact K (Or.inr (Or.inr (Or.inr (Or.inr (Or.inr (Or.inr (Or.inr (Or.inr ⟨w, z1, z2, z⟩))))))))
  · rw [et s hs2] at h0 ⊢
    exact ⟨((h.2.1.2.2.2.1 s hs2).2.2 h0).1, ((h.2.1.2.2.2.1 s hs2).2.2 h0).2.1⟩
  · rw [ep q hq]
    exact (h.2.1.2.2.1 q hq).2.1
  · rw [hk 3 (by omega)]
    exact h.2.1.2.2.2.2.1.1
  · rw [hk 1 (by omega)]
    exact h.n1
end KW3
