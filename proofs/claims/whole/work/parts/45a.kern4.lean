/-! more writes to a kernel: places that do not matter, sizes, new rows -/
theorem rl_cg {ρ n : Nat} {kf k' : KF} (hn : n ≤ 200) (e : ∀ j, Rl ρ kf n j → k' j = kf j) : ∀ j, Rl ρ k' n j → Rl ρ kf n j := fun j hj => by
  have e3 : k' 3 = kf 3 := e 3 (by unfold Rl; omega)
  have e5 : k' 5 = kf 5 := e 5 (by unfold Rl; omega)
  have ep : ∀ p, p < 32 → plen k' p = plen kf p := fun p hp => congrArg Int32.toNatClampNeg (e (340 + p) (by unfold Rl; omega))
  have et : ∀ t, t < n → kg k' t 14 = kg kf t 14 := fun t ht => e _ (Or.inr (Or.inr (Or.inr (Or.inr (Or.inr (Or.inl ⟨t, 14, ht, by decide, rfl⟩))))))
  rcases hj with h | h | h | h | h | h | ⟨t, i, h1, h0, h2, h3⟩ | ⟨p, i, h1, h2, h3⟩ | h
  · exact Or.inl h
  · exact Or.inr (Or.inl h)
  · rw [e5] at h
    exact Or.inr (Or.inr (Or.inl h))
  · exact Or.inr (Or.inr (Or.inr (Or.inl h)))
  · exact Or.inr (Or.inr (Or.inr (Or.inr (Or.inl h))))
  · exact Or.inr (Or.inr (Or.inr (Or.inr (Or.inr (Or.inl h)))))
  · rw [et t h1] at h0 h2
    exact Or.inr (Or.inr (Or.inr (Or.inr (Or.inr (Or.inr (Or.inl ⟨t, i, h1, h0, h2, h3⟩))))))
  · rw [ep p h1] at h2
    exact Or.inr (Or.inr (Or.inr (Or.inr (Or.inr (Or.inr (Or.inr (Or.inl ⟨p, i, h1, h2, h3⟩)))))))
  · rw [e3] at h
    exact Or.inr (Or.inr (Or.inr (Or.inr (Or.inr (Or.inr (Or.inr (Or.inr h)))))))
/-- the numbers matter only at the places that matter -/
theorem KV.cgk {m : Mem} {Y : YY} {ρ n : Nat} {kf k' : KF} {vf v' : VF} (hρ : 62000 ≤ ρ) (hT : KT m Y) (h : KV m Y ρ kf vf n) (e : ∀ j, Rl ρ kf n j → k' j = kf j) (ev : ∀ t, t < n → v' t = vf t) : KV m Y ρ k' v' n := by
  have hn := h.2.2.2.2.2.2
  have ep : ∀ p, p < 32 → plen k' p = plen kf p := fun p hp => congrArg Int32.toNatClampNeg (e (340 + p) (by unfold Rl; omega))
  have et : ∀ t, t < n → kg k' t 14 = kg kf t 14 := fun t ht => e _ (Or.inr (Or.inr (Or.inr (Or.inr (Or.inr (Or.inl ⟨t, 14, ht, by decide, rfl⟩))))))
  refine KV.of hρ hT (fun j hj => ?_) (fun t ht => by rw [ev t ht]; exact (h.2.2.2.1 t ht).2.1) (fun t ht h0 => ?_) (fun p hp => ?_) ?_ ?_ hn
  · have := rl_cg hn e j hj
    rw [e j this]
    exact h.r hρ j this
  · rw [et t ht] at h0 ⊢
    exact ⟨((h.2.2.2.1 t ht).2.2 h0).1, ((h.2.2.2.1 t ht).2.2 h0).2.1⟩
  · rw [ep p hp]
    exact (h.2.2.1 p hp).2.1
  · rw [e 3 (by unfold Rl; omega)]
    exact h.2.2.2.2.1.1
  · rw [e 1 (by unfold Rl; omega)]
    exact h.2.2.2.2.2.1
theorem KQ.cgk {Z : Mem × YY} {m : Mem} {Y : YY} {ρ n : Nat} {kf k' : KF} {vf v' : VF} (hρ : 62000 ≤ ρ) (h : KQ Z m Y ρ kf vf n) (e : ∀ j, Rl ρ kf n j → k' j = kf j) (ev : ∀ t, t < n → v' t = vf t) : KQ Z m Y ρ k' v' n := ⟨h.1, h.2.1.cgk hρ h.1 e ev, h.2.2⟩
theorem KQ.ke {Z : Mem × YY} {m : Mem} {Y : YY} {ρ n : Nat} {kf k' : KF} {vf : VF} (h : KQ Z m Y ρ kf vf n) (e : kf = k') : KQ Z m Y ρ k' vf n := e ▸ h
/-- a write to a spot of no place that matters -/
theorem KV.x {m m' : Mem} {Y : YY} {ρ n : Nat} {kf : KF} {vf : VF} {x : Int32} {s : Nat × Nat × Nat} (h : KV m Y ρ kf vf n) (hρ : 62000 ≤ ρ) (hT' : KT m' Y) (hm : ∀ c : Nat × Nat × Nat, c.1 ≤ 1 → rd m' c = if c = s then x else rd m c) (hs : ∀ j, Rl ρ kf n j → lo Y ρ j ≠ s) (hN : gN m' = gN m) (hP : gP m' = gP m) (hL : ∀ t, t < n → gL m' 84 (Y.1 (9 + t)) = gL m 84 (Y.1 (9 + t))) : KV m' Y ρ kf vf n := by
  refine KV.of hρ hT' (fun i hi => ?_) (fun t ht => by rw [hL t ht]; exact (h.2.2.2.1 t ht).2.1) (fun t ht h0 => ?_) (fun p hp => ?_) ?_ h.2.2.2.2.2.1 h.2.2.2.2.2.2
  · rw [hm (lo Y ρ i) (lr_1 ρ i), if_neg (hs i hi)]
    exact h.r hρ i hi
  · rw [hP]
    exact ⟨((h.2.2.2.1 t ht).2.2 h0).1, ((h.2.2.2.1 t ht).2.2 h0).2.1⟩
  · rw [hN]
    exact (h.2.2.1 p hp).2.1
  · rw [hN]
    exact h.2.2.2.2.1.1
/-- the spot of a place, by roles -/
theorem lo_ne {m : Mem} {Y : YY} {ρ n j r : Nat} {kf : KF} {vf : VF} {a b : Nat} (hT : KT m Y) (h : KV m Y ρ kf vf n) (hρ : 62000 ≤ ρ) (hj : Rl ρ kf n j) (hr : Y.2.2.2 (Y.1 r) = Y.2.1 + r) (k : lr ρ j ≠ (a, b, r)) : lo Y ρ j ≠ (a, b, Y.1 r) := fun e => k (by
  have hn := h.2.2.2.2.2.2
  have j1 := (rl_lr hρ hn hj).1
  have oj : Y.2.2.2 (Y.1 (lr ρ j).2.2) = Y.2.1 + (lr ρ j).2.2 := by
    rcases j1 with q | ⟨t, ht, h0, q⟩
    · exact hT.ow q
    · rw [q]
      exact hT.injS (r := 0) (by omega) ((h.2.2.2.1 t ht).2.2 h0).1
  unfold lo at e
  have e1 : (lr ρ j).1 = a := congrArg (fun q => q.1) e
  have e2 : (lr ρ j).2.1 = b := congrArg (fun q => q.2.1) e
  have e3 : Y.1 (lr ρ j).2.2 = Y.1 r := congrArg (fun q => q.2.2) e
  rw [e3, hr] at oj
  have e4 : (lr ρ j).2.2 = r := by omega
  rw [← e1, ← e2, ← e4])
section KW2
variable {Z : Mem × YY} {m : Mem} {Y : YY} {ρ n : Nat} {kf : KF} {vf : VF} {x : Int32}
/-- beyond the rows -/
theorem KQ.rx (h : KQ Z m Y ρ kf vf n) (hρ : 62000 ≤ ρ) {i : Nat} (hi : 5 * (kf 3).toNatClampNeg ≤ i) : KQ Z (sAI m (Y.1 4) i x) Y ρ kf vf n := by
  have hT' : KT (sAI m (Y.1 4) i x) Y := h.1.sAI
  have hn := h.n2
  refine ⟨hT', h.2.1.x hρ hT' (s := (1, i, Y.1 4)) (fun c hc => rd_sAI _ _ _ _ _ hc) (fun j hj => lo_ne h.1 h.2.1 hρ hj (h.1.ow (by omega)) (fun q => ?_)) rfl rfl (fun _ _ => rfl), h.2.2.sAI (h.1.ow (by omega)) (by omega)⟩
  rcases hj with z | z | z | z | z | ⟨t, w, z1, z2, rfl⟩ | ⟨t, w, z1, z0, z2, z3, rfl⟩ | ⟨t, w, z1, z2, z3, rfl⟩ | ⟨w, z1, z2, rfl⟩
  · rw [lr_k z] at q
    have := congrArg (fun y : Nat × Nat × Nat => y.1) q
    cases this
  · rw [show j = 7 + (j - 7) by omega, lr_ch (by omega)] at q
    have := congrArg (fun y : Nat × Nat × Nat => y.2.2) q
    cases this
  · rw [show j = 16 + (j - 16) by omega, lr_ri (by omega)] at q
    have := congrArg (fun y : Nat × Nat × Nat => y.2.2) q
    cases this
  · rw [show j = 220 + (j - 220) by omega, lr_ra (by omega)] at q
    have := congrArg (fun y : Nat × Nat × Nat => y.2.2) q
    cases this
  · by_cases z3 : j < 340
    · rw [show j = 240 + (j - 240) by omega, lr_ho (by omega)] at q
      have := congrArg (fun y : Nat × Nat × Nat => y.2.2) q
      cases this
    · rw [show j = 340 + (j - 340) by omega, lr_ps (by omega)] at q
      have := congrArg (fun y : Nat × Nat × Nat => y.1) q
      cases this
  · rw [lr_t (by omega) z2] at q
    have := congrArg (fun y : Nat × Nat × Nat => y.1) q
    cases this
  · rw [lr_s (by omega) (by omega)] at q
    have := congrArg (fun y : Nat × Nat × Nat => y.2.2) q
    dsimp only at this
    omega
  · rw [lr_b z1 z3] at q
    have := congrArg (fun y : Nat × Nat × Nat => y.2.2) q
    dsimp only at this
    omega
  · rw [lr_r hρ] at q
    have := congrArg (fun y : Nat × Nat × Nat => y.2.1) q
    dsimp only at this
    omega
/-- what places look like from a spot's view: an element (1, i, r) belongs only to .. -/
theorem lr_el {j r i : Nat} (hρ : 62000 ≤ ρ) (hn : n ≤ 200) (hj : Rl ρ kf n j) (e : lr ρ j = (1, i, r)) : (r = 6 ∧ j = 7 + i) ∨ (r = 7 ∧ j = 16 + i ∧ nI i < kf 5) ∨ (r = 8 ∧ j = 220 + i) ∨ (r = 5 ∧ j = 240 + i) ∨ (∃ t, t < n ∧ r = 273 + t ∧ 0 ≤ kg kf t 14 ∧ i < (kg kf t 14).toNatClampNeg) ∨ (∃ p, p < 32 ∧ r = 241 + p ∧ i < plen kf p) ∨ (r = 4 ∧ i < 5 * (kf 3).toNatClampNeg) := by
  have pr : ∀ {a b c a' b' c' : Nat}, (a, b, c) = (a', b', c') → a = a' ∧ b = b' ∧ c = c' := fun q => by
    cases q
    exact ⟨rfl, rfl, rfl⟩
  rcases hj with z | z | z | z | z | ⟨t, w, z1, z2, rfl⟩ | ⟨t, w, z1, z0, z2, z3, rfl⟩ | ⟨t, w, z1, z2, z3, rfl⟩ | ⟨w, z1, z2, rfl⟩
  · rw [lr_k z] at e
    cases (pr e).1
  · rw [show j = 7 + (j - 7) by omega, lr_ch (by omega)] at e
    have := pr e
    exact Or.inl ⟨this.2.2.symm, by omega⟩
  · rw [show j = 16 + (j - 16) by omega, lr_ri (by omega)] at e
    have := pr e
    exact Or.inr (Or.inl ⟨this.2.2.symm, by omega, by rw [← this.2.1]; exact z.2.2⟩)
  · rw [show j = 220 + (j - 220) by omega, lr_ra (by omega)] at e
    have := pr e
    exact Or.inr (Or.inr (Or.inl ⟨this.2.2.symm, by omega⟩))
  · by_cases z3 : j < 340
    · rw [show j = 240 + (j - 240) by omega, lr_ho (by omega)] at e
      have := pr e
      exact Or.inr (Or.inr (Or.inr (Or.inl ⟨this.2.2.symm, by omega⟩)))
    · rw [show j = 340 + (j - 340) by omega, lr_ps (by omega)] at e
      cases (pr e).1
  · rw [lr_t (by omega) z2] at e
    cases (pr e).1
  · rw [lr_s (by omega) (by omega)] at e
    have := pr e
    exact Or.inr (Or.inr (Or.inr (Or.inr (Or.inl ⟨t, z1, this.2.2.symm, z0, by omega⟩))))
  · rw [lr_b z1 z3] at e
    have := pr e
    exact Or.inr (Or.inr (Or.inr (Or.inr (Or.inr (Or.inl ⟨t, z1, this.2.2.symm, by omega⟩)))))
  · rw [lr_r hρ] at e
    have := pr e
    exact Or.inr (Or.inr (Or.inr (Or.inr (Or.inr (Or.inr ⟨this.2.2.symm, by omega⟩)))))
/-- bytes beyond a program's end -/
theorem KQ.bx (h : KQ Z m Y ρ kf vf n) (hρ : 62000 ≤ ρ) {p i : Nat} (hp : p < 32) (hi : plen kf p ≤ i) (hy : ∃ y : Int8, x = y.toInt32) : KQ Z (sAI m (Y.1 (241 + p)) i x) Y ρ kf vf n := by
  have hT' : KT (sAI m (Y.1 (241 + p)) i x) Y := h.1.sAI
  have hn := h.n2
  refine ⟨hT', h.2.1.x hρ hT' (s := (1, i, Y.1 (241 + p))) (fun c hc => rd_sAI _ _ _ _ _ hc) (fun j hj => lo_ne h.1 h.2.1 hρ hj (h.1.ow (by omega)) (fun q => ?_)) rfl rfl (fun _ _ => rfl), ?_⟩
  · rcases lr_el hρ hn hj q with z | z | z | z | ⟨t, z1, z2, -⟩ | ⟨p', z1, z2, z3⟩ | z
    · omega
    · omega
    · omega
    · omega
    · omega
    · have : p' = p := by omega
      subst this
      omega
    · omega
  · have f := h.2.2
    refine ⟨f.1, f.2.1, fun b hb => fk_wr1 (m' := sAI m (Y.1 (241 + p)) i x) f (h.1.ow (r := 241 + p) (by omega)) (by omega) rfl rfl (fun _ e => eqa_sAI e) b hb, f.2.2.2.1, f.2.2.2.2.1, fun a c hlt ha h1 h2 j => ?_, f.2.2.2.2.2.2⟩
    have old := f.2.2.2.2.2.1 a c hlt ha h1 h2 j
    by_cases e : a = Y.1 (241 + p)
    · subst e
      by_cases e2 : j = i
      · subst e2
        obtain ⟨y, hy⟩ := hy
        exact ⟨y, (u2_eq _ _ _ _).trans hy⟩
      · obtain ⟨y, hy⟩ := old
        exact ⟨y, (u2_na _ _ e2).trans hy⟩
    · obtain ⟨y, hy⟩ := old
      exact ⟨y, (u2_nf _ _ e).trans hy⟩
/-- a field of a task that is not there yet -/
theorem KQ.tx (h : KQ Z m Y ρ kf vf n) (hρ : 62000 ≤ ρ) {t f : Nat} (ht : n ≤ t) (ht2 : t < 200) (hf : f ≠ 80) : KQ Z (sI m f (Y.1 (9 + t)) x) Y ρ kf vf n := by
  have hT' : KT (sI m f (Y.1 (9 + t)) x) Y := h.1.sI hf
  have hn := h.n2
  refine ⟨hT', h.2.1.x hρ hT' (s := (0, f, Y.1 (9 + t))) (fun c _ => rd_sI _ _ _ _ _) (fun j hj => lo_ne h.1 h.2.1 hρ hj (h.1.ow (by omega)) (fun q => ?_)) rfl rfl (fun _ _ => rfl), h.2.2.sI (h.1.ow (by omega)) (by omega)⟩
  have pr : ∀ {a b c a' b' c' : Nat}, (a, b, c) = (a', b', c') → a = a' ∧ b = b' ∧ c = c' := fun q => by
    cases q
    exact ⟨rfl, rfl, rfl⟩
  rcases hj with z | z | z | z | z | ⟨t', w, z1, z2, rfl⟩ | ⟨t', w, z1, z0, z2, z3, rfl⟩ | ⟨t', w, z1, z2, z3, rfl⟩ | ⟨w, z1, z2, rfl⟩
  · rw [lr_k z] at q
    have := (pr q).2.2
    split at this <;> omega
  · rw [show j = 7 + (j - 7) by omega, lr_ch (by omega)] at q
    cases (pr q).1
  · rw [show j = 16 + (j - 16) by omega, lr_ri (by omega)] at q
    cases (pr q).1
  · rw [show j = 220 + (j - 220) by omega, lr_ra (by omega)] at q
    cases (pr q).1
  · by_cases z3 : j < 340
    · rw [show j = 240 + (j - 240) by omega, lr_ho (by omega)] at q
      cases (pr q).1
    · rw [show j = 340 + (j - 340) by omega, lr_ps (by omega)] at q
      have := (pr q).2.2
      omega
  · rw [lr_t (by omega) z2] at q
    have := (pr q).2.2
    omega
  · rw [lr_s (by omega) (by omega)] at q
    cases (pr q).1
  · rw [lr_b z1 z3] at q
    cases (pr q).1
  · rw [lr_r hρ] at q
    cases (pr q).1
theorem KQ.tv (h : KQ Z m Y ρ kf vf n) {t f : Nat} {y : Int64} (ht : n ≤ t) (ht2 : t < 200) : KQ Z (sL m f (Y.1 (9 + t)) y) Y ρ kf vf n := by
  have hn := h.n2
  refine ⟨h.1.sL, ⟨h.2.1.1, h.2.1.2.1, h.2.1.2.2.1, fun s hs => ⟨(h.2.1.2.2.2.1 s hs).1, ?_, (h.2.1.2.2.2.1 s hs).2.2⟩, h.2.1.2.2.2.2⟩, h.2.2.sL (h.1.ow (by omega)) (by omega)⟩
  exact (u2_na (gL m) (f := f) (f' := 84) y (h.1.inj (r := 9 + s) (s := 9 + t) (by omega) (by omega) (by omega))).trans (h.2.1.2.2.2.1 s hs).2.1
/-- shorts of a task that has none -/
theorem KQ.sx (h : KQ Z m Y ρ kf vf n) (hρ : 62000 ≤ ρ) {t i : Nat} (ht : t < 200) (hs : gP m 97 (Y.1 (9 + t)) = some (Y.1 (273 + t))) (h0 : t < n → ¬ 0 ≤ kg kf t 14) : KQ Z (sAI m (Y.1 (273 + t)) i x) Y ρ kf vf n := by
  have hT' : KT (sAI m (Y.1 (273 + t)) i x) Y := h.1.sAI
  have hn := h.n2
  refine ⟨hT', h.2.1.x hρ hT' (s := (1, i, Y.1 (273 + t))) (fun c hc => rd_sAI _ _ _ _ _ hc) (fun j hj => lo_ne h.1 h.2.1 hρ hj (h.1.injS (r := 0) ht hs) (fun q => ?_)) rfl rfl (fun _ _ => rfl), h.2.2.sAI (h.1.injS (r := 0) ht hs) (by omega)⟩
  rcases lr_el hρ hn hj q with z | z | z | z | ⟨t', z1, z2, z3, -⟩ | ⟨p', z1, z2, z3⟩ | z
  · omega
  · omega
  · omega
  · omega
  · have : t' = t := by omega
    subst this
    exact h0 z1 z3
  · omega
  · omega
/-- the ring, in memory and in the numbers -/
theorem KQ.ri (h : KQ Z m Y ρ kf vf n) (hρ : 62000 ≤ ρ) {i : Nat} (hi : i < 200) : KQ Z (sAI m (Y.1 7) i x) Y ρ (upd kf (16 + i) x) vf n := by
  have hT' : KT (sAI m (Y.1 7) i x) Y := h.1.sAI
  have hn := h.n2
  by_cases h5 : nI i < kf 5
  · refine ⟨hT', h.2.1.w h.1 hρ hT' (j := 16 + i) (Or.inr (Or.inr (Or.inl ⟨by omega, by omega, by rw [Nat.add_sub_cancel_left]; exact h5⟩))) ?_ (fun c hc => ?_) rfl rfl rfl, h.2.2.sAI (h.1.ow (by omega)) (by omega)⟩
    · rintro (e | e | e | e | ⟨s, hs, e⟩) <;> omega
    · rw [rd_sAI _ _ _ _ _ hc, lo, lr_ri hi]
  · have k : KV (sAI m (Y.1 7) i x) Y ρ kf vf n := h.2.1.x hρ hT' (s := (1, i, Y.1 7)) (fun c hc => rd_sAI _ _ _ _ _ hc) (fun j hj => lo_ne h.1 h.2.1 hρ hj (h.1.ow (by omega)) (fun q => by
      rcases lr_el hρ hn hj q with z | ⟨-, -, z⟩ | z | z | ⟨t', z1, z2, z3, -⟩ | ⟨p', z1, z2, z3⟩ | z
      · omega
      · exact h5 z
      · omega
      · omega
      · omega
      · omega
      · omega)) rfl rfl (fun _ _ => rfl)
    refine ⟨hT', k.cgk hρ hT' (fun j hj => upd_ne _ _ (fun q => ?_)) (fun _ _ => rfl), h.2.2.sAI (h.1.ow (by omega)) (by omega)⟩
    subst q
    rcases hj with z | z | ⟨-, -, z⟩ | z | z | ⟨t', w, z1, z2, z⟩ | ⟨t', w, z1, z0, z2, z3, z⟩ | ⟨t', w, z1, z2, z3, z⟩ | ⟨w, z1, z2, z⟩
    · omega
    · omega
    · rw [Nat.add_sub_cancel_left] at z
      exact h5 z
    all_goals omega
end KW2
