/-! an ACT, the end of a task: the spec -/
def acO (kf : KF) (vf : VF) (t : Nat) (op n : Int32) : Int32 × KF × VF :=
  if op = 1 then (nI 0, (if 0 < n then ks kf t 4 n else kf), vf)
  else if op = 2 then ((tkF kf t n).1, (tkF kf t n).2, vf)
  else if op = 3 then ((gvF kf vf t n).1, (gvF kf vf t n).2, vf)
  else if op = 4 then (if inI n (nI 0) (nI 15) then (-1, wts kf t (nI 2) n (-1), vf) else (nI 10, kf, vf))
  else if op = 5 then (if inI n (nI 0) (nI 15) then (nI 0, (rgF kf n).1, vf) else (nI 10, kf, vf))
  else if op = 6 then (if 0 < n then (-1, wts kf t (nI 3) (-1) (kf 0 + n), vf) else (nI 0, kf, vf))
  else if op = 7 then fkF kf vf t n
  else if op = 10 then ((syF kf t n).1, (syF kf t n).2, vf)
  else if op = 11 then ((if inI n (nI 0) (nI 3) then (if n = 0 ∨ n = 3 then nI 5 else nI 6) else nI 10), kf, vf)
  else ((smF kf t op n).1, (smF kf t op n).2, vf)
def acG (kf : KF) (vf : VF) (t p a : Nat) : Int32 × KF × VF :=
  if kf (340 + p) < 0 then (nI 1, kf, vf)
  else if a < plen kf p then
    (if inI (kf (30000 + 1000 * p + a)) (nI 0) (nI 12) then
      (if kf (30000 + 1000 * p + a) = 0 then (-2, kf, vf)
       else if a + 1 < plen kf p then acO kf vf t (kf (30000 + 1000 * p + a)) (kf (30000 + 1000 * p + a + 1)) else (nI 2, kf, vf))
     else (nI 10, kf, vf))
  else (nI 2, kf, vf)
def actF (kf : KF) (vf : VF) (t : Nat) : Int32 × KF × VF := acG kf vf t (kg kf t 1).toNatClampNeg (kg kf t 5).toNatClampNeg
theorem act_G {kf : KF} {vf : VF} {t p a : Nat} (hp : kg kf t 1 = nI p) (ha : kg kf t 5 = nI a) (h1 : p < 2 ^ 31) (h2 : a < 2 ^ 31) : actF kf vf t = acG kf vf t p a := by rw [actF, hp, ha, nI_clamp h1, nI_clamp h2]
theorem ch_upd {kf : KF} {n j : Nat} {x : Int32} (hC : CH kf n) (hj : j < 100) (hx : x < 0) : CH (upd kf (240 + j) x) n := fun i hi h6 => by
  rw [kg_hold _ _ _ hj] at h6
  obtain ⟨l, hl, e7, e8⟩ := hC i hi h6
  refine ⟨l, hl, by rw [kg_hold _ _ _ hj]; exact e7, ?_⟩
  by_cases e : l = j
  · subst e
    rw [upd_eq]
    exact Or.inl hx
  · rw [upd_ne _ _ (by omega)]
    exact e8
theorem by_le {q : Int32} (h : q ≤ nI 127) : ∀ b, q = nI b → b ≤ 127 ∨ 2 ^ 31 ≤ b := fun b e => by
  rcases Nat.lt_or_ge b (2 ^ 31) with hb | hb
  · rw [e] at h
    exact Or.inl ((nI_leI hb (by decide)).mp h)
  · exact Or.inr hb
/-- the end of task t: its locks, by number, go on -/
def edS (vf : VF) (t l : Nat) (k : KF) : KF := if k (240 + l) = nI t then psF (upd k (240 + l) (-1)) vf l else k
def ed0 (kf : KF) (t : Nat) (q : Int32) : KF := ks (ks (rdy kf t) t 6 (nI 4)) t 9 q
def edL (kf : KF) (vf : VF) (t : Nat) (q : Int32) (i : Nat) : KF := lp (edS vf t) i (ed0 kf t q)
def edF (kf : KF) (vf : VF) (t : Nat) (q : Int32) : KF := edL kf vf t q 100
theorem wf_ed0 {kf : KF} {n t : Nat} {q : Int32} (h : WF kf n) (ht : t < n) : WF (ed0 kf t q) n := by
  have hn2 := h.1.2
  refine wf_ks (wf_st (wf_rdy h ht) ht (t := t) (k' := ks (rdy kf t) t 6 (nI 4)) (by rw [kg_eq]; decide) (fun i h6 _ _ => ks_at _ _ _ _ _ h6)) (by decide) (by omega)
theorem wf_edL {kf : KF} {vf : VF} {n t : Nat} {q : Int32} (h : WF kf n) (ht : t < n) : ∀ i, i ≤ 100 → WF (edL kf vf t q i) n := by
  intro i
  induction i with
  | zero => intro _; exact wf_ed0 h ht
  | succ i ih =>
    intro hi
    have h1 := ih (by omega)
    show WF (edS vf t i (edL kf vf t q i)) n
    unfold edS
    split
    · exact wf_ps h1 (by omega)
    · exact h1
