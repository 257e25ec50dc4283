/-! a TICK: the spec -/
def wk1 (c : Int32) (u : Nat) (k : KF) : KF := if kg k u 6 = 3 ∧ kg k u 8 = c then rdy k u else k
def wk2 (c : Int32) (u : Nat) (k : KF) : KF := if isDue k u = true ∧ kg k u 12 = c then bd (ks (ks k u 12 (c + kg k u 10)) u 13 (kg (ks k u 12 (c + kg k u 10)) u 11)) 9 else k
def wkS (c : Int32) (u : Nat) (k : KF) : KF := if kg k u 6 = 4 then k else wk2 c u (wk1 c u k)
def wkF (kf : KF) : KF := lp (wkS (kf 0)) (nT kf) kf
theorem wf_wk1 {k : KF} {c : Int32} {u n : Nat} (h : WF k n) (hu : u < n) : WF (wk1 c u k) n := by
  unfold wk1
  split
  · exact wf_rdy h hu
  · exact h
theorem wf_wk2 {k : KF} {c : Int32} {u n : Nat} (h : WF k n) (hu : u < n) : WF (wk2 c u k) n := by
  have hn2 := h.1.2
  unfold wk2
  split
  · exact wf_bd (wf_ks (wf_ks h (by decide) (by omega)) (by decide) (by omega)) (by decide)
  · exact h
theorem wf_wkS {k : KF} {c : Int32} {u n : Nat} (h : WF k n) (hu : u < n) : WF (wkS c u k) n := by
  unfold wkS
  split
  · exact h
  · exact wf_wk2 (wf_wk1 h hu) hu
theorem wf_wk {kf : KF} {c : Int32} {n : Nat} (h : WF kf n) : ∀ i, i ≤ n → WF (lp (wkS c) i kf) n := by
  intro i
  induction i with
  | zero => intro _; exact h
  | succ i ih => intro hi; exact wf_wkS (ih (by omega)) (by omega)
def ptF (k : KF) (r : Nat) (a b c d e : Int32) : KF :=
  upd (upd (upd (upd (upd (upd (upd (upd (upd (upd k (62000 + r + 0) a) (102000 + r + 0) a) (62000 + r + 1) b) (102000 + r + 1) b) (62000 + r + 2) c) (102000 + r + 2) c) (62000 + r + 3) d) (102000 + r + 3) d) (62000 + r + 4) e) (102000 + r + 4) e
theorem ptF_at (k : KF) (r : Nat) (a b c d e : Int32) {j : Nat} (hj : j < 62000) : ptF k r a b c d e j = k j := by
  unfold ptF
  rw [upd_ne _ _ (by omega), upd_ne _ _ (by omega), upd_ne _ _ (by omega), upd_ne _ _ (by omega), upd_ne _ _ (by omega), upd_ne _ _ (by omega), upd_ne _ _ (by omega), upd_ne _ _ (by omega), upd_ne _ _ (by omega), upd_ne _ _ (by omega)]
def rdP (kf : KF) (lf : Nat → Int32) (u : Nat) : Bool := kg kf u 6 == 0 && lf u == 0
def chF (kf : KF) (vf : VF) (lf : Nat → Int32) (p : Nat) : KF × (Nat → Int32) :=
  match pick kf vf (rdP kf lf) (nT kf) with
  | none => (upd kf (7 + p) (-1), lf)
  | some b => (upd (ptF (upd kf (7 + p) (nI b)) (5 * (kf 3).toNatClampNeg) (upd kf (7 + p) (nI b) 0) (nI p) (nI b) (cls (upd kf (7 + p) (nI b)) (stnd kf vf b)) (key (upd kf (7 + p) (nI b)) vf (stnd kf vf b)).toInt32) 3 (nI ((kf 3).toNatClampNeg + 1)), upd lf b (nI 1))
