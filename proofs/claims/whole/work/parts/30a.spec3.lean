/-! what a task's bytes do: the spec -/
def cnt (kf : KF) (t : Nat) : Nat → Int32 → Nat
  | 0, _ => 0
  | f + 1, w => if w < 0 then 0 else if w = nI t then 0 else cnt kf t f (nxt kf w.toNatClampNeg) + 1
def itr (kf : KF) : Nat → Int32 → Int32
  | 0, w => w
  | i + 1, w => itr kf i (nxt kf w.toNatClampNeg)
theorem itr_s (kf : KF) (i : Nat) (w : Int32) : itr kf (i + 1) w = nxt kf (itr kf i w).toNatClampNeg := by
  induction i generalizing w with
  | zero => rfl
  | succ i ih => exact ih _
def HV (kf : KF) (n : Nat) : Prop := ∀ l, l < 100 → kf (240 + l) < 0 ∨ ∃ i, i < n ∧ kf (240 + l) = nI i
theorem nxt_ok {kf : KF} {n j : Nat} (hC : CH kf n) (hj : j < n) : nxt kf j < 0 ∨ ∃ i, i < n ∧ nxt kf j = nI i := by
  unfold nxt
  split
  · rename_i h
    obtain ⟨l, hl, e7, e8⟩ := hC j hj h
    rw [e7, nI_clamp (by omega)]
    exact e8
  · exact Or.inl (by decide)
theorem chn_neg {kf : KF} {t : Nat} {w : Int32} (f : Nat) (h : w < 0) : chn kf t f w = w := by
  cases f with
  | zero => rfl
  | succ f => rw [chn, if_pos h]
/-- along a ring each one waits for a lock -/
theorem ring_ok {kf : KF} {t n : Nat} (ht : t < 200) (hn2 : n ≤ 200) (hC : CH kf n) : ∀ (f : Nat) (w : Int32), (w < 0 ∨ ∃ j, j < n ∧ w = nI j) → chn kf t f w = nI t → ∀ i, i < cnt kf t f w → ∃ j, j < n ∧ itr kf i w = nI j ∧ kg kf j 6 = 1 := by
  intro f
  induction f with
  | zero => intro w hw h i hi; exact absurd hi (Nat.not_lt_zero _)
  | succ f ih =>
    intro w hw h i hi
    unfold cnt at hi
    split at hi
    · exact absurd hi (Nat.not_lt_zero _)
    · rename_i h0
      split at hi
      · exact absurd hi (Nat.not_lt_zero _)
      · rename_i h1
        obtain ⟨j, hj, rfl⟩ := hw.resolve_left h0
        rw [chn, if_neg h0, if_neg h1, nI_clamp (by omega)] at h
        rw [nI_clamp (by omega)] at hi
        have h6 : kg kf j 6 = 1 := by
          rcases Decidable.em (kg kf j 6 = 1) with q | q
          · exact q
          · have e : nxt kf j = -1 := by rw [nxt, if_neg q]
            rw [e, chn_neg f (by decide)] at h
            have := nI_pos' (n := t) (by omega)
            rw [← h] at this
            exact absurd this (by decide)
        cases i with
        | zero => exact ⟨j, hj, rfl, h6⟩
        | succ i =>
          have e : itr kf (i + 1) (nI j) = itr kf i (nxt kf j) := by rw [itr, nI_clamp (by omega)]
          rw [e]
          exact ih _ (nxt_ok hC hj) h i (by omega)
theorem cnt_le (kf : KF) (t : Nat) : ∀ (f : Nat) (w : Int32), cnt kf t f w ≤ f := by
  intro f
  induction f with
  | zero => intro w; exact Nat.le_refl _
  | succ f ih =>
    intro w
    unfold cnt
    split
    · exact Nat.zero_le _
    · split
      · exact Nat.zero_le _
      · exact Nat.succ_le_succ (ih _)
def rgP (kf : KF) (t c : Nat) (h : Int32) (i : Nat) : KF := lp (fun i k => upd k (16 + (i + 1)) (itr kf i h)) i (upd (upd (upd kf 4 (kf 4 + nI 1)) 5 (nI (c + 1))) 16 (nI t))
theorem rgP_hi (kf : KF) (t c : Nat) (h : Int32) {j : Nat} (hj : 217 ≤ j) : ∀ i, i ≤ 200 → rgP kf t c h i j = kf j := by
  intro i
  induction i with
  | zero =>
    intro _
    show upd (upd (upd kf 4 _) 5 _) 16 _ j = kf j
    rw [upd_ne _ _ (by omega), upd_ne _ _ (by omega), upd_ne _ _ (by omega)]
  | succ i ih =>
    intro hi
    show upd (rgP kf t c h i) (16 + (i + 1)) _ j = kf j
    rw [upd_ne _ _ (by omega)]
    exact ih (by omega)
/-- takes a lock: what comes of it, and the new state -/
def tkF (kf : KF) (t : Nat) (n : Int32) : Int32 × KF :=
  if inI n (nI 0) (nI 99) = true ∧ ¬ kf (240 + n.toNatClampNeg) = -2 then
    (if kf (240 + n.toNatClampNeg) = nI t then (nI 11, kf)
     else if kf (240 + n.toNatClampNeg) < 0 then (nI 0, upd kf (240 + n.toNatClampNeg) (nI t))
     else if chn kf t 200 (kf (240 + n.toNatClampNeg)) < 0 then (-1, wts kf t (nI 1) n (-1))
     else (nI 12, rgP kf t (cnt kf t 200 (kf (240 + n.toNatClampNeg))) (kf (240 + n.toNatClampNeg)) (cnt kf t 200 (kf (240 + n.toNatClampNeg)))))
  else (nI 7, kf)
def gvF (kf : KF) (vf : VF) (t : Nat) (n : Int32) : Int32 × KF :=
  if inI n (nI 0) (nI 99) = true ∧ ¬ kf (240 + n.toNatClampNeg) = -2 then
    (if kf (240 + n.toNatClampNeg) = nI t then (nI 0, psF (upd kf (240 + n.toNatClampNeg) (-1)) vf n.toNatClampNeg) else (nI 11, kf))
  else (nI 7, kf)
def fkF (kf : KF) (vf : VF) (t : Nat) (n : Int32) : Int32 × KF × VF :=
  if inI n (nI 0) (nI 31) = true then
    (if kf 1 = 200 then (nI 11, kf, vf) else (nI 0, adK kf (nT kf) (kg kf t 0) n (kg kf t 2) (kg kf t 10) (kg kf t 11), vp_updL vf (nT kf) (lvF kf vf (nT kf)).2))
  else (nI 10, kf, vf)
def syF (kf : KF) (t : Nat) (n : Int32) : Int32 × KF :=
  if inI n (nI 0) (nI 4) = true then
    (if isOfB (kg kf t 0) n then (nI 0, if n = 1 ∨ n = 2 then ks kf t 13 (kg kf t 13 + nI 1) else kf) else (nI 3, kf))
  else (nI 10, kf)
def smF (kf : KF) (t : Nat) (op n : Int32) : Int32 × KF :=
  if op = 8 then
    (if kg kf t 14 < 0 then (if n < 0 then (nI 4, kf) else (nI 0, lp (fun i k => upd k (4400 + 128 * t + i) (nI 0)) n.toNatClampNeg (ks kf t 14 n))) else (nI 11, kf))
  else if kg kf t 14 < 0 then (nI 8, kf)
  else if inI n (nI 0) (kg kf t 14 - nI 1) then
    (if op = 9 then (nI 0, upd kf (4400 + 128 * t + n.toNatClampNeg) (kf 0).toInt16.toInt32)
     else (nI 0, if 0 < kf (4400 + 128 * t + n.toNatClampNeg) then ks kf t 4 (kf (4400 + 128 * t + n.toNatClampNeg)) else kf))
  else (nI 9, kf)
theorem mx_n {l : Nat} (h : l < 2 ^ 31) : mxI (nI l) (nI 0) = nI l := by rw [mxI, if_neg (show ¬ nI l < nI 0 from nI_pos h)]
