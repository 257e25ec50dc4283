/-! the places of the kernel's numbers: KV as one sentence over the places j that matter, and a write to one of them -/
def rd (m : Mem) (c : Nat × Nat × Nat) : Int32 := if c.1 = 0 then gI m c.2.1 c.2.2 else aI m c.2.2 c.2.1
def kfF (j : Nat) : Nat := if j = 0 then 8 else if j = 1 then 7 else if j = 2 then 9 else if j = 3 then 60 else if j = 4 then 11 else 10
/-- whose, and which of it: (0, field) or (1, place), and the role -/
def lr (ρ j : Nat) : Nat × Nat × Nat :=
  if j < 6 then (0, kfF j, if j = 3 then 3 else 0) else if j < 11 then (1, j - 7, 6) else if j < 216 then (1, j - 16, 7) else if j < 232 then (1, j - 220, 8) else if j < 340 then (1, j - 240, 5) else if j < 372 then (0, 40, 209 + (j - 340)) else if j < 4400 then (0, tf ((j - 400) % 20), 9 + (j - 400) / 20) else if j < 30000 then (1, (j - 4400) % 128, 273 + (j - 4400) / 128) else if j < 62000 then (1, (j - 30000) % 1000, 241 + (j - 30000) / 1000) else (1, j - ρ, 4)
def lo (Y : YY) (ρ j : Nat) : Nat × Nat × Nat := ((lr ρ j).1, (lr ρ j).2.1, Y.1 (lr ρ j).2.2)
def Rl (ρ : Nat) (kf : KF) (n j : Nat) : Prop :=
  j < 6 ∨ (7 ≤ j ∧ j < 11) ∨ (16 ≤ j ∧ j < 216 ∧ nI (j - 16) < kf 5) ∨ (220 ≤ j ∧ j < 232) ∨ (240 ≤ j ∧ j < 372) ∨ (∃ t w, t < n ∧ w < 15 ∧ j = 400 + 20 * t + w) ∨ (∃ t i, t < n ∧ 0 ≤ kg kf t 14 ∧ i < (kg kf t 14).toNatClampNeg ∧ i < 127 ∧ j = 4400 + 128 * t + i) ∨ (∃ p i, p < 32 ∧ i < plen kf p ∧ i < 1000 ∧ j = 30000 + 1000 * p + i) ∨ ∃ i, i < 5 * (kf 3).toNatClampNeg ∧ i < 40000 ∧ j = ρ + i
section LR
variable {ρ j t w i p l : Nat}
theorem lr_k (h : j < 6) : lr ρ j = (0, kfF j, if j = 3 then 3 else 0) := by rw [lr, if_pos h]
theorem lr_ch (h : i < 4) : lr ρ (7 + i) = (1, i, 6) := by rw [lr, if_neg (by omega), if_pos (by omega), Nat.add_sub_cancel_left]
theorem lr_ri (h : i < 200) : lr ρ (16 + i) = (1, i, 7) := by rw [lr, if_neg (by omega), if_neg (by omega), if_pos (by omega), Nat.add_sub_cancel_left]
theorem lr_ra (h : i < 12) : lr ρ (220 + i) = (1, i, 8) := by rw [lr, if_neg (by omega), if_neg (by omega), if_neg (by omega), if_pos (by omega), Nat.add_sub_cancel_left]
theorem lr_ho (h : l < 100) : lr ρ (240 + l) = (1, l, 5) := by rw [lr, if_neg (by omega), if_neg (by omega), if_neg (by omega), if_neg (by omega), if_pos (by omega), Nat.add_sub_cancel_left]
theorem lr_ps (h : p < 32) : lr ρ (340 + p) = (0, 40, 209 + p) := by rw [lr, if_neg (by omega), if_neg (by omega), if_neg (by omega), if_neg (by omega), if_neg (by omega), if_pos (by omega), Nat.add_sub_cancel_left]
theorem lr_t (h : t < 200) (hw : w < 15) : lr ρ (400 + 20 * t + w) = (0, tf w, 9 + t) := by rw [lr, if_neg (by omega), if_neg (by omega), if_neg (by omega), if_neg (by omega), if_neg (by omega), if_neg (by omega), if_pos (by omega), show (400 + 20 * t + w - 400) % 20 = w by omega, show (400 + 20 * t + w - 400) / 20 = t by omega]
theorem lr_s (h : t < 200) (hi : i < 128) : lr ρ (4400 + 128 * t + i) = (1, i, 273 + t) := by rw [lr, if_neg (by omega), if_neg (by omega), if_neg (by omega), if_neg (by omega), if_neg (by omega), if_neg (by omega), if_neg (by omega), if_pos (by omega), show (4400 + 128 * t + i - 4400) % 128 = i by omega, show (4400 + 128 * t + i - 4400) / 128 = t by omega]
theorem lr_b (h : p < 32) (hi : i < 1000) : lr ρ (30000 + 1000 * p + i) = (1, i, 241 + p) := by rw [lr, if_neg (by omega), if_neg (by omega), if_neg (by omega), if_neg (by omega), if_neg (by omega), if_neg (by omega), if_neg (by omega), if_neg (by omega), if_pos (by omega), show (30000 + 1000 * p + i - 30000) % 1000 = i by omega, show (30000 + 1000 * p + i - 30000) / 1000 = p by omega]
theorem lr_r (hρ : 62000 ≤ ρ) : lr ρ (ρ + i) = (1, i, 4) := by rw [lr, if_neg (by omega), if_neg (by omega), if_neg (by omega), if_neg (by omega), if_neg (by omega), if_neg (by omega), if_neg (by omega), if_neg (by omega), if_neg (by omega), Nat.add_sub_cancel_left]
end LR
theorem tf_n {w : Nat} (h : w < 15) : 81 ≤ tf w ∧ tf w ≤ 96 ∧ tf w ≠ 84 := by
  unfold tf
  split <;> omega
theorem tf_inj {v w : Nat} (h : tf v = tf w) : v = w := by
  unfold tf at h
  split at h <;> split at h <;> omega
/-- what a place that matters looks like -/
theorem rl_lr {ρ n j : Nat} {kf : KF} (hρ : 62000 ≤ ρ) (hn : n ≤ 200) (h : Rl ρ kf n j) : ((lr ρ j).2.2 < 273 ∨ ∃ t, t < n ∧ 0 ≤ kg kf t 14 ∧ (lr ρ j).2.2 = 273 + t) ∧ (j < 6 ∧ lr ρ j = (0, kfF j, if j = 3 then 3 else 0) ∨ (∃ i, i < 4 ∧ j = 7 + i ∧ lr ρ j = (1, i, 6)) ∨ (∃ i, i < 200 ∧ j = 16 + i ∧ lr ρ j = (1, i, 7)) ∨ (∃ i, i < 12 ∧ j = 220 + i ∧ lr ρ j = (1, i, 8)) ∨ (∃ i, i < 100 ∧ j = 240 + i ∧ lr ρ j = (1, i, 5)) ∨ (∃ i, i < 32 ∧ j = 340 + i ∧ lr ρ j = (0, 40, 209 + i)) ∨ (∃ t w, t < 200 ∧ w < 15 ∧ j = 400 + 20 * t + w ∧ lr ρ j = (0, tf w, 9 + t)) ∨ (∃ t i, t < 200 ∧ i < 127 ∧ j = 4400 + 128 * t + i ∧ lr ρ j = (1, i, 273 + t)) ∨ (∃ p i, p < 32 ∧ i < 1000 ∧ j = 30000 + 1000 * p + i ∧ lr ρ j = (1, i, 241 + p)) ∨ ∃ i, j = ρ + i ∧ lr ρ j = (1, i, 4)) := by
  rcases h with h | h | h | h | h | ⟨t, w, h1, h2, rfl⟩ | ⟨t, i, h1, h0, h2, h3, rfl⟩ | ⟨p, i, h1, h2, h3, rfl⟩ | ⟨i, h1, h2, rfl⟩
  · refine ⟨Or.inl ?_, Or.inl ⟨h, lr_k h⟩⟩
    rw [lr_k h]
    dsimp only
    split <;> omega
  · have e := lr_ch (ρ := ρ) (i := j - 7) (by omega)
    rw [show 7 + (j - 7) = j by omega] at e
    exact ⟨Or.inl (by rw [e]; dsimp only; omega), Or.inr (Or.inl ⟨j - 7, by omega, by omega, e⟩)⟩
  · have e := lr_ri (ρ := ρ) (i := j - 16) (by omega)
    rw [show 16 + (j - 16) = j by omega] at e
    exact ⟨Or.inl (by rw [e]; dsimp only; omega), Or.inr (Or.inr (Or.inl ⟨j - 16, by omega, by omega, e⟩))⟩
  · have e := lr_ra (ρ := ρ) (i := j - 220) (by omega)
    rw [show 220 + (j - 220) = j by omega] at e
    exact ⟨Or.inl (by rw [e]; dsimp only; omega), Or.inr (Or.inr (Or.inr (Or.inl ⟨j - 220, by omega, by omega, e⟩)))⟩
  · by_cases h3 : j < 340
    · have e := lr_ho (ρ := ρ) (l := j - 240) (by omega)
      rw [show 240 + (j - 240) = j by omega] at e
      exact ⟨Or.inl (by rw [e]; dsimp only; omega), Or.inr (Or.inr (Or.inr (Or.inr (Or.inl ⟨j - 240, by omega, by omega, e⟩))))⟩
    · have e := lr_ps (ρ := ρ) (p := j - 340) (by omega)
      rw [show 340 + (j - 340) = j by omega] at e
      exact ⟨Or.inl (by rw [e]; dsimp only; omega), Or.inr (Or.inr (Or.inr (Or.inr (Or.inr (Or.inl ⟨j - 340, by omega, by omega, e⟩)))))⟩
  · have e := lr_t (ρ := ρ) (t := t) (w := w) (by omega) h2
    exact ⟨Or.inl (by rw [e]; dsimp only; omega), Or.inr (Or.inr (Or.inr (Or.inr (Or.inr (Or.inr (Or.inl ⟨t, w, by omega, h2, rfl, e⟩))))))⟩
  · have e := lr_s (ρ := ρ) (t := t) (i := i) (by omega) (by omega)
    exact ⟨Or.inr ⟨t, h1, h0, by rw [e]⟩, Or.inr (Or.inr (Or.inr (Or.inr (Or.inr (Or.inr (Or.inr (Or.inl ⟨t, i, by omega, h3, rfl, e⟩)))))))⟩
  · have e := lr_b (ρ := ρ) h1 h3
    exact ⟨Or.inl (by rw [e]; dsimp only; omega), Or.inr (Or.inr (Or.inr (Or.inr (Or.inr (Or.inr (Or.inr (Or.inr (Or.inl ⟨p, i, h1, h3, rfl, e⟩))))))))⟩
  · have e := lr_r (ρ := ρ) (i := i) hρ
    exact ⟨Or.inl (by rw [e]; dsimp only; omega), Or.inr (Or.inr (Or.inr (Or.inr (Or.inr (Or.inr (Or.inr (Or.inr (Or.inr ⟨i, rfl, e⟩))))))))⟩
theorem KV.r {m : Mem} {Y : YY} {ρ n : Nat} {kf : KF} {vf : VF} (h : KV m Y ρ kf vf n) (hρ : 62000 ≤ ρ) : ∀ j, Rl ρ kf n j → rd m (lo Y ρ j) = kf j := by
  obtain ⟨hk, ⟨h6, h7, h8, h5⟩, hp, ht, hr, h1, hn⟩ := h
  intro j hj
  rcases hj with h | h | h | h | h | ⟨t, w, q1, q2, rfl⟩ | ⟨t, i, q1, q0, q2, q3, rfl⟩ | ⟨p, i, q1, q2, q3, rfl⟩ | ⟨i, q1, q2, rfl⟩
  · unfold lo
    rw [lr_k h]
    rcases (show j = 0 ∨ j = 1 ∨ j = 2 ∨ j = 3 ∨ j = 4 ∨ j = 5 by omega) with rfl | rfl | rfl | rfl | rfl | rfl
    · exact hk.1
    · exact hk.2.1
    · exact hk.2.2.1
    · exact hk.2.2.2.1
    · exact hk.2.2.2.2.1
    · exact hk.2.2.2.2.2
  · have e := h6 (j - 7) (by omega)
    have e2 := lr_ch (ρ := ρ) (i := j - 7) (by omega)
    rw [show 7 + (j - 7) = j by omega] at e e2
    unfold lo
    rw [e2]
    exact e
  · have e := h7 (j - 16) (by omega) h.2.2
    have e2 := lr_ri (ρ := ρ) (i := j - 16) (by omega)
    rw [show 16 + (j - 16) = j by omega] at e e2
    unfold lo
    rw [e2]
    exact e
  · have e := h8 (j - 220) (by omega)
    have e2 := lr_ra (ρ := ρ) (i := j - 220) (by omega)
    rw [show 220 + (j - 220) = j by omega] at e e2
    unfold lo
    rw [e2]
    exact e
  · by_cases h3 : j < 340
    · have e := h5 (j - 240) (by omega)
      have e2 := lr_ho (ρ := ρ) (l := j - 240) (by omega)
      rw [show 240 + (j - 240) = j by omega] at e e2
      unfold lo
      rw [e2]
      exact e
    · have e := (hp (j - 340) (by omega)).1
      have e2 := lr_ps (ρ := ρ) (p := j - 340) (by omega)
      rw [show 340 + (j - 340) = j by omega] at e e2
      unfold lo
      rw [e2]
      exact e
  · unfold lo
    rw [lr_t (by omega) q2]
    exact (ht t q1).1 w q2
  · unfold lo
    rw [lr_s (by omega) (by omega)]
    exact ((ht t q1).2.2 q0).2.2 i q2
  · unfold lo
    rw [lr_b q1 q3]
    exact (hp p q1).2.2 i q2
  · unfold lo
    rw [lr_r hρ]
    exact hr.2 i q1
/-- back to the single sentences -/
theorem KV.of {m : Mem} {Y : YY} {ρ n : Nat} {kf : KF} {vf : VF} (hρ : 62000 ≤ ρ) (hT : KT m Y) (h : ∀ j, Rl ρ kf n j → rd m (lo Y ρ j) = kf j) (hv : ∀ t, t < n → gL m 84 (Y.1 (9 + t)) = vf t) (hs : ∀ t, t < n → 0 ≤ kg kf t 14 → gP m 97 (Y.1 (9 + t)) = some (Y.1 (273 + t)) ∧ (kg kf t 14).toNatClampNeg ≤ 127) (hp : ∀ p, p < 32 → plen kf p ≤ gN m (Y.1 (241 + p))) (hr : 5 * (kf 3).toNatClampNeg ≤ gN m (Y.1 4)) (h1 : kf 1 = nI n) (hn : n ≤ 200) : KV m Y ρ kf vf n := by
  have k : ∀ j, j < 6 → rd m (0, kfF j, Y.1 (if j = 3 then 3 else 0)) = kf j := fun j hj => by
    have e := h j (Or.inl hj)
    unfold lo at e
    rw [lr_k hj] at e
    exact e
  refine ⟨⟨k 0 (by decide), k 1 (by decide), k 2 (by decide), k 3 (by decide), k 4 (by decide), k 5 (by decide)⟩, ⟨fun i hi => ?_, fun i hi hi2 => ?_, fun i hi => ?_, fun i hi => ?_⟩, fun p hp2 => ⟨?_, hp p hp2, fun i hi => ?_⟩, fun t ht => ⟨fun w hw => ?_, hv t ht, fun h0 => ⟨(hs t ht h0).1, (hs t ht h0).2, fun i hi => ?_⟩⟩, ⟨hr, fun i hi => ?_⟩, h1, hn⟩
  · have e := h (7 + i) (by unfold Rl; omega)
    unfold lo at e
    rw [lr_ch hi] at e
    exact e
  · have e := h (16 + i) (Or.inr (Or.inr (Or.inl ⟨by omega, by omega, by rw [Nat.add_sub_cancel_left]; exact hi2⟩)))
    unfold lo at e
    rw [lr_ri hi] at e
    exact e
  · have e := h (220 + i) (by unfold Rl; omega)
    unfold lo at e
    rw [lr_ra hi] at e
    exact e
  · have e := h (240 + i) (by unfold Rl; omega)
    unfold lo at e
    rw [lr_ho hi] at e
    exact e
  · have e := h (340 + p) (by unfold Rl; omega)
    unfold lo at e
    rw [lr_ps hp2] at e
    exact e
  · have b := (hT.2.2.2.1 p hp2).2.2
    have b2 := hp p hp2
    unfold LB at b
    have e := h (30000 + 1000 * p + i) (Or.inr (Or.inr (Or.inr (Or.inr (Or.inr (Or.inr (Or.inr (Or.inl ⟨p, i, hp2, hi, by omega, rfl⟩))))))))
    unfold lo at e
    rw [lr_b hp2 (by omega)] at e
    exact e
  · have e := h (400 + 20 * t + w) (Or.inr (Or.inr (Or.inr (Or.inr (Or.inr (Or.inl ⟨t, w, ht, hw, rfl⟩))))))
    unfold lo at e
    rw [lr_t (by omega) hw] at e
    exact e
  · have b := (hs t ht h0).2
    have e := h (4400 + 128 * t + i) (Or.inr (Or.inr (Or.inr (Or.inr (Or.inr (Or.inr (Or.inl ⟨t, i, ht, h0, hi, by omega, rfl⟩)))))))
    unfold lo at e
    rw [lr_s (by omega) (by omega)] at e
    exact e
  · have b := hT.2.2.2.2.2
    unfold LC at b
    have e := h (ρ + i) (Or.inr (Or.inr (Or.inr (Or.inr (Or.inr (Or.inr (Or.inr (Or.inr ⟨i, hi, by omega, rfl⟩))))))))
    unfold lo at e
    rw [lr_r hρ] at e
    exact e
theorem KT.injS {m : Mem} {Y : YY} (h : KT m Y) {t r : Nat} (ht : t < 200) (hs : gP m 97 (Y.1 (9 + t)) = some (Y.1 (273 + t))) : Y.2.2.2 (Y.1 (273 + t)) = Y.2.1 + (273 + t) := by
  rcases (h.2.2.2.2.1 t ht).2.2 with q | q
  · rw [q.1] at hs
    cases hs
  · exact q.2.2.2.2.1
/-- two places that matter are not in one spot -/
theorem lo_inj {m : Mem} {Y : YY} {ρ n i j : Nat} {kf : KF} {vf : VF} (hT : KT m Y) (h : KV m Y ρ kf vf n) (hρ : 62000 ≤ ρ) (hi : Rl ρ kf n i) (hj : Rl ρ kf n j) (e : lo Y ρ i = lo Y ρ j) : i = j := by
  have hn := h.2.2.2.2.2.2
  obtain ⟨i1, i2⟩ := rl_lr hρ hn hi
  obtain ⟨j1, j2⟩ := rl_lr hρ hn hj
  have ow : ∀ r, (r < 273 ∨ ∃ t, t < n ∧ 0 ≤ kg kf t 14 ∧ r = 273 + t) → Y.2.2.2 (Y.1 r) = Y.2.1 + r := fun r hr => by
    rcases hr with q | ⟨t, ht, h0, rfl⟩
    · exact hT.ow q
    · exact hT.injS (r := 0) (by omega) ((h.2.2.2.1 t ht).2.2 h0).1
  have oi := ow _ i1
  have oj := ow _ j1
  unfold lo at e
  have e1 : (lr ρ i).1 = (lr ρ j).1 := congrArg (fun q => q.1) e
  have e2 : (lr ρ i).2.1 = (lr ρ j).2.1 := congrArg (fun q => q.2.1) e
  have e3 : Y.1 (lr ρ i).2.2 = Y.1 (lr ρ j).2.2 := congrArg (fun q => q.2.2) e
  rw [e3] at oi
  have e4 : (lr ρ i).2.2 = (lr ρ j).2.2 := by omega
  clear e e3 oi oj ow i1 j1 hi hj
  have kj : ∀ j, j < 6 → (kfF j = 8 ∧ j = 0 ∨ kfF j = 7 ∧ j = 1 ∨ kfF j = 9 ∧ j = 2 ∨ kfF j = 60 ∧ j = 3 ∨ kfF j = 11 ∧ j = 4 ∨ kfF j = 10 ∧ j = 5) := fun j hj => by
    rcases (show j = 0 ∨ j = 1 ∨ j = 2 ∨ j = 3 ∨ j = 4 ∨ j = 5 by omega) with rfl | rfl | rfl | rfl | rfl | rfl <;> decide
  rcases i2 with ⟨a, q⟩ | ⟨a, b, c, q⟩ | ⟨a, b, c, q⟩ | ⟨a, b, c, q⟩ | ⟨a, b, c, q⟩ | ⟨a, b, c, q⟩ | ⟨a, w, b, b2, c, q⟩ | ⟨a, w, b, b2, c, q⟩ | ⟨a, w, b, b2, c, q⟩ | ⟨a, c, q⟩ <;>
  rcases j2 with ⟨a', q'⟩ | ⟨a', b', c', q'⟩ | ⟨a', b', c', q'⟩ | ⟨a', b', c', q'⟩ | ⟨a', b', c', q'⟩ | ⟨a', b', c', q'⟩ | ⟨a', w', b', b2', c', q'⟩ | ⟨a', w', b', b2', c', q'⟩ | ⟨a', w', b', b2', c', q'⟩ | ⟨a', c', q'⟩ <;>
  rw [q, q'] at e1 e2 e4 <;> dsimp only at e1 e2 e4 <;> first
  | omega
  | (have := kj i a; have := kj j a'; omega)
  | (have := tf_inj e2; omega)
  | (have := kj i a; have := tf_n b2'; omega)
  | (have := kj j a'; have := tf_n b2; omega)
  | (have := tf_n b2; omega)
  | (have := tf_n b2'; omega)
  | (have := kj i a; split at e4 <;> omega)
  | (have := kj j a'; split at e4 <;> omega)
