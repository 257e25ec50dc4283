/-! THE SPEC: what the reference does, as plain functions of the content kf of its row k and vf of its row v -/
abbrev KF : Type := Nat → Int32
abbrev VF : Type := Nat → Int64
def bI (b : Bool) : Int32 := if b then 1 else 0
theorem bI_nar (b : Bool) : narrow .boolean (.int (bI b)) = .int (bI b) := by cases b <;> rfl
theorem bI_z {b : Bool} : bI b = 0 ↔ b = false := by cases b <;> decide
/-- a loop: f 0, f 1, .. f (n - 1) -/
def lp {σ : Type} (f : Nat → σ → σ) : Nat → σ → σ
  | 0, s => s
  | n + 1, s => f n (lp f n s)
section RowsB
variable {G : GG} {d : Nat} {u : MI} {z0 n0 : Nat} {r : Option Value} {mF : Mem} {pc : Nat} {lv : List (Nat × Value)} {st : List Value} {m : Mem}
theorem e_if_eqB {b : Bool} {off : Int} (tgt : Nat) (hd : decode u.2.1 pc = .ok (.ifCond .eq off, 3)) (ht : (pc : Int) + off = (tgt : Int)) (k1 : b = false → EvB G d u z0 n0 r mF tgt lv st m) (k2 : b = true → EvB G d u z0 n0 r mF (pc + 3) lv st m) : EvB G d u z0 n0 r mF pc lv (.int (bI b) :: st) m := e_if_eq tgt hd ht (fun h => k1 (bI_z.mp h)) (fun h => k2 (by cases b; exact absurd rfl h; rfl))
theorem e_if_neB {b : Bool} {off : Int} (tgt : Nat) (hd : decode u.2.1 pc = .ok (.ifCond .ne off, 3)) (ht : (pc : Int) + off = (tgt : Int)) (k1 : b = true → EvB G d u z0 n0 r mF tgt lv st m) (k2 : b = false → EvB G d u z0 n0 r mF (pc + 3) lv st m) : EvB G d u z0 n0 r mF pc lv (.int (bI b) :: st) m := e_if_ne tgt hd ht (fun h => k1 (by cases b; exact absurd rfl h; rfl)) (fun h => k2 (bI_z.mp h))
-- branches on the sign of a comparison of longs
theorem e_lc_lt {x y : Int64} {off : Int} (tgt : Nat) (hd : decode u.2.1 pc = .ok (.ifCond .lt off, 3)) (ht : (pc : Int) + off = (tgt : Int)) (k1 : x < y → EvB G d u z0 n0 r mF tgt lv st m) (k2 : ¬ x < y → EvB G d u z0 n0 r mF (pc + 3) lv st m) : EvB G d u z0 n0 r mF pc lv (.int (lg_cmp x y) :: st) m := e_if_lt tgt hd ht (fun h => k1 ((lg_cmp_lt x y).mp h)) (fun h => k2 (mt (lg_cmp_lt x y).mpr h))
theorem e_lc_ge {x y : Int64} {off : Int} (tgt : Nat) (hd : decode u.2.1 pc = .ok (.ifCond .ge off, 3)) (ht : (pc : Int) + off = (tgt : Int)) (k1 : y ≤ x → EvB G d u z0 n0 r mF tgt lv st m) (k2 : ¬ y ≤ x → EvB G d u z0 n0 r mF (pc + 3) lv st m) : EvB G d u z0 n0 r mF pc lv (.int (lg_cmp x y) :: st) m := e_if_ge tgt hd ht (fun h => k1 ((lg_cmp_ge x y).mp h)) (fun h => k2 (mt (lg_cmp_ge x y).mpr h))
theorem e_lc_gt {x y : Int64} {off : Int} (tgt : Nat) (hd : decode u.2.1 pc = .ok (.ifCond .gt off, 3)) (ht : (pc : Int) + off = (tgt : Int)) (k1 : y < x → EvB G d u z0 n0 r mF tgt lv st m) (k2 : ¬ y < x → EvB G d u z0 n0 r mF (pc + 3) lv st m) : EvB G d u z0 n0 r mF pc lv (.int (lg_cmp x y) :: st) m := e_if_gt tgt hd ht (fun h => k1 ((lg_cmp_gt x y).mp h)) (fun h => k2 (mt (lg_cmp_gt x y).mpr h))
theorem e_lc_le {x y : Int64} {off : Int} (tgt : Nat) (hd : decode u.2.1 pc = .ok (.ifCond .le off, 3)) (ht : (pc : Int) + off = (tgt : Int)) (k1 : x ≤ y → EvB G d u z0 n0 r mF tgt lv st m) (k2 : ¬ x ≤ y → EvB G d u z0 n0 r mF (pc + 3) lv st m) : EvB G d u z0 n0 r mF pc lv (.int (lg_cmp x y) :: st) m := e_if_le tgt hd ht (fun h => k1 ((lg_cmp_le x y).mp h)) (fun h => k2 (mt (lg_cmp_le x y).mpr h))
theorem e_lc_eq {x y : Int64} {off : Int} (tgt : Nat) (hd : decode u.2.1 pc = .ok (.ifCond .eq off, 3)) (ht : (pc : Int) + off = (tgt : Int)) (k1 : x = y → EvB G d u z0 n0 r mF tgt lv st m) (k2 : ¬ x = y → EvB G d u z0 n0 r mF (pc + 3) lv st m) : EvB G d u z0 n0 r mF pc lv (.int (lg_cmp x y) :: st) m := e_if_eq tgt hd ht (fun h => k1 ((lg_cmp_eq x y).mp h)) (fun h => k2 (mt (lg_cmp_eq x y).mpr h))
theorem e_lc_ne {x y : Int64} {off : Int} (tgt : Nat) (hd : decode u.2.1 pc = .ok (.ifCond .ne off, 3)) (ht : (pc : Int) + off = (tgt : Int)) (k1 : ¬ x = y → EvB G d u z0 n0 r mF tgt lv st m) (k2 : x = y → EvB G d u z0 n0 r mF (pc + 3) lv st m) : EvB G d u z0 n0 r mF pc lv (.int (lg_cmp x y) :: st) m := e_if_ne tgt hd ht (fun h => k1 (mt (lg_cmp_eq x y).mpr h)) (fun h => k2 ((lg_cmp_eq x y).mp h))
end RowsB
def kg (kf : KF) (t w : Nat) : Int32 := kf (400 + 20 * t + w)
def ks (kf : KF) (t w : Nat) (x : Int32) : KF := upd kf (400 + 20 * t + w) x
def nT (kf : KF) : Nat := (kf 1).toNatClampNeg
def inL (x lo hi : Int64) : Bool := decide (lo ≤ x ∧ x ≤ hi)
def isDue (kf : KF) (t : Nat) : Bool := kg kf t 0 == 1 || kg kf t 0 == 2
/-- CLASS 0 -/
def c0 (kf : KF) (t : Nat) : Bool := isDue kf t && decide (0 < kg kf t 13)
def cls (kf : KF) (t : Nat) : Int32 := if c0 kf t then 0 else 1
def key (kf : KF) (vf : VF) (t : Nat) : Int64 := if c0 kf t then (kg kf t 12).toInt64 else vf t
def ahead (kf : KF) (vf : VF) (t u : Nat) : Bool := if c0 kf t = c0 kf u then (if key kf vf t = key kf vf u then decide (t < u) else decide (key kf vf t < key kf vf u)) else c0 kf t
/-- who holds the lock that w waits for -/
def nxt (kf : KF) (w : Nat) : Int32 := if kg kf w 6 = 1 then kf (240 + (kg kf w 7).toNatClampNeg) else -1
/-- from w up the chain of holders, at most f steps, till t is reached or nobody is left -/
def chn (kf : KF) (t : Nat) : Nat → Int32 → Int32
  | 0, w => w
  | f + 1, w => if w < 0 then w else if w = nI t then w else chn kf t f (nxt kf w.toNatClampNeg)
def rch (kf : KF) (t u : Nat) : Bool := decide (chn kf t (nT kf + 1) (nI u) = nI t)
/-- the foremost of t and of those whose chain leads to t -/
def stnd (kf : KF) (vf : VF) (t : Nat) : Nat := lp (fun u b => if rch kf t u && ahead kf vf u b then u else b) (nT kf) t
/-- who waits for a lock waits for one that is there, and holders are tasks -/
def CH (kf : KF) (n : Nat) : Prop := ∀ j, j < n → kg kf j 6 = 1 → ∃ l, l < 100 ∧ kg kf j 7 = nI l ∧ (kf (240 + l) < 0 ∨ ∃ i, i < n ∧ kf (240 + l) = nI i)
theorem nT_of {kf : KF} {n : Nat} (h : kf 1 = nI n) (hn : n ≤ 200) : nT kf = n := by
  unfold nT
  rw [h]
  exact nI_clamp (by omega)
theorem chn_s {kf : KF} {t f j : Nat} (hj : j < 2 ^ 31) (h : ¬ nI j = nI t) : chn kf t (f + 1) (nI j) = chn kf t f (nxt kf j) := by
  rw [chn, if_neg (nI_pos hj), if_neg h, nI_clamp hj]
theorem lp_lt {n : Nat} (p : Nat → Nat → Bool) {t i : Nat} (ht : t < 200) (hi : i ≤ n) (hn : n ≤ 200) : lp (fun u b => if p u b then u else b) i t < 200 := by
  induction i with
  | zero => exact ht
  | succ i ih =>
    show (if p i _ then i else _) < 200
    split
    · omega
    · exact ih (by omega)
theorem nI_lit (n : Nat) : nI (OfNat.ofNat n) = OfNat.ofNat n := rfl
theorem nI_one : nI 1 = 1 := rfl
theorem bI_t {b : Bool} (h : b = true) : some (Value.int (bI b)) = some (.int (nI 1)) := by subst h; rfl
theorem bI_f {b : Bool} (h : b = false) : some (Value.int (bI b)) = some (.int (nI 0)) := by subst h; rfl
theorem kg_lt {t w : Nat} (h : t < 200) (hw : w < 20) : 400 + 20 * t + w < 142000 := by omega
theorem cls_0 {kf : KF} {t : Nat} : cls kf t = 0 ↔ c0 kf t = true := by
  unfold cls
  cases c0 kf t <;> decide
theorem cls_n {kf : KF} {t : Nat} : ¬ cls kf t = 0 ↔ c0 kf t = false := by
  rw [cls_0]
  cases c0 kf t <;> decide
theorem cls_eq {kf : KF} {t u : Nat} : cls kf t = cls kf u ↔ c0 kf t = c0 kf u := by
  unfold cls
  cases c0 kf t <;> cases c0 kf u <;> decide
theorem cls_lt {kf : KF} {t u : Nat} (h : ¬ cls kf t = cls kf u) : cls kf t < cls kf u ↔ c0 kf t = true := by
  rw [cls_eq] at h
  unfold cls
  cases h1 : c0 kf t <;> cases h2 : c0 kf u <;> simp [h1, h2] at h ⊢
/-- a BODY is counted -/
def bd (kf : KF) (b : Nat) : KF := upd kf (220 + b) (kf (220 + b) + nI 1)
def rdy (kf : KF) (t : Nat) : KF := ks (ks (ks kf t 6 (nI 0)) t 7 (-1)) t 8 (-1)
def wts (kf : KF) (t : Nat) (a b c : Int32) : KF :=
  let k1 := ks (ks (ks kf t 6 a) t 7 b) t 8 c
  let q := kg k1 t 0
  let k2 := if q = 3 ∨ q = 4 then bd k1 4 else k1
  let k3 := if q = 2 then bd k2 5 else k2
  bd k3 3
def isOfB (kind n : Int32) : Bool := n == 0 || n == kind || (n == 1 && kind == 2) || (n == 3 && kind == 4)
def payK (kf : KF) (t : Nat) : KF := bd (ks kf t 3 ((nI 1000 + kg kf t 3) - (nI 1000 + kg kf t 3) / kg kf t 2 * kg kf t 2)) 0
def payV (kf : KF) (vf : VF) (t : Nat) : VF := vp_updL vf t (vf t + ((nI 1000 + kg kf t 3) / kg kf t 2).toInt64)
/-- PAYS -/
def paysF (kf : KF) (vf : VF) (t : Nat) : KF × VF :=
  let q := kg kf t 0
  let k1 := bd kf (if isDue kf t then 7 else 6)
  let sp := isDue kf t && decide (0 < kg k1 t 13)
  let k2 := if sp then ks k1 t 13 (kg k1 t 13 - nI 1) else k1
  if sp = true ∧ q = 1 then (k2, vf) else
    let k3 := if q = 2 then bd k2 1 else k2
    let k4 := if q = 4 then bd k3 2 else k3
    let k5 := payK k4 t
    let v5 := payV k4 vf t
    if q = 4 then (payK k5 t, payV k5 v5 t) else (k5, v5)
theorem upd_eq (f : Nat → Int32) (k : Nat) (x : Int32) : upd f k x k = x := by simp [upd]
theorem upd_ne (f : Nat → Int32) {k j : Nat} (x : Int32) (h : j ≠ k) : upd f k x j = f j := by simp [upd, h]
theorem kg_bd (kf : KF) (b t w : Nat) (h : b < 180) : kg (bd kf b) t w = kg kf t w := upd_ne _ _ (by omega)
theorem kg_eq (kf : KF) (t w : Nat) (x : Int32) : kg (ks kf t w x) t w = x := upd_eq _ _ _
theorem kg_ne (kf : KF) (t w s v : Nat) (x : Int32) (hw : w < 20) (hv : v < 20) (h : v ≠ w) : kg (ks kf t w x) s v = kg kf s v := upd_ne _ _ (by omega)
theorem kg_nt (kf : KF) (t w s v : Nat) (x : Int32) (hw : w < 20) (hv : v < 20) (h : s ≠ t) : kg (ks kf t w x) s v = kg kf s v := upd_ne _ _ (by omega)
theorem k_ks (kf : KF) (t w j : Nat) (x : Int32) (h : j < 400) : ks kf t w x j = kf j := upd_ne _ _ (by omega)
theorem k_bd (kf : KF) (b j : Nat) (h : j ≠ 220 + b) : bd kf b j = kf j := upd_ne _ _ h
theorem kg_payK (kf : KF) (t s v : Nat) (hv : v < 20) (h : v ≠ 3) : kg (payK kf t) s v = kg kf s v := by rw [payK, kg_bd _ _ _ _ (by decide), kg_ne _ _ _ _ _ _ (by decide) hv h]
theorem stnd_lt {kf : KF} {vf : VF} {t n : Nat} (ht : t < 200) (hn : kf 1 = nI n) (hn2 : n ≤ 200) : stnd kf vf t < 200 := by
  unfold stnd
  rw [nT_of hn hn2]
  exact lp_lt (n := n) (fun u b => rch kf t u && ahead kf vf u b) ht (Nat.le_refl _) hn2
def oI : Option Nat → Int32
  | none => -1
  | some b => nI b
/-- of those u below n with P u, the one whose standing is foremost -/
def pkS (kf : KF) (vf : VF) (P : Nat → Bool) (u : Nat) (B : Option Nat) : Option Nat :=
  if P u then (match B with | none => some u | some b => if ahead kf vf (stnd kf vf u) (stnd kf vf b) then some u else some b) else B
def pick (kf : KF) (vf : VF) (P : Nat → Bool) (n : Nat) : Option Nat := lp (pkS kf vf P) n none
theorem pick_lt {kf : KF} {vf : VF} {P : Nat → Bool} : ∀ {n b : Nat}, pick kf vf P n = some b → b < n ∧ P b = true := by
  intro n
  induction n with
  | zero => intro b h; cases h
  | succ n ih =>
    intro b h
    have h' : pkS kf vf P n (pick kf vf P n) = some b := h
    unfold pkS at h'
    split at h'
    · rename_i hp
      cases hq : pick kf vf P n with
      | none =>
        rw [hq] at h'
        cases h'
        exact ⟨Nat.lt_succ_self n, hp⟩
      | some c =>
        rw [hq] at h'
        dsimp only at h'
        split at h'
        · cases h'
          exact ⟨Nat.lt_succ_self n, hp⟩
        · cases h'
          exact ⟨Nat.lt_succ_of_lt (ih hq).1, (ih hq).2⟩
    · exact ⟨Nat.lt_succ_of_lt (ih h').1, (ih h').2⟩
def wtP (kf : KF) (l u : Nat) : Bool := kg kf u 6 == 1 && kg kf u 7 == nI l
/-- lock l goes to the foremost who waits for it -/
def psF (kf : KF) (vf : VF) (l : Nat) : KF :=
  match pick kf vf (wtP kf l) (nT kf) with
  | none => upd kf (240 + l) (-1)
  | some b => bd (rdy (upd kf (240 + l) (nI b)) b) (if kg (rdy (upd kf (240 + l) (nI b)) b) b 0 = 4 then 11 else 10)
/-- bell b is rung -/
def rgS (b : Int32) (u : Nat) (s : KF × Nat) : KF × Nat := if kg s.1 u 6 = 2 ∧ kg s.1 u 7 = b then (rdy s.1 u, s.2 + 1) else s
def rgF (kf : KF) (b : Int32) : KF × Nat := lp (rgS b) (nT kf) (kf, 0)
/-- the least VIRTUAL of those not ended -/
def lvS (kf : KF) (vf : VF) (u : Nat) (s : Bool × Int64) : Bool × Int64 := if kg kf u 6 = 4 ∨ (s.1 = true ∧ ¬ vf u < s.2) then s else (true, vf u)
def lvF (kf : KF) (vf : VF) (n : Nat) : Bool × Int64 := lp (lvS kf vf) n (false, 0)
/-- a new task t -/
def adK (kf : KF) (t : Nat) (a b c p q : Int32) : KF :=
  let k1 := lp (fun i k => ks k t i (nI 0)) 20 (upd kf 1 (nI (t + 1)))
  let k2 := ks (ks (ks (ks (ks (ks (ks (ks k1 t 0 a) t 1 b) t 2 c) t 7 (-1)) t 8 (-1)) t 14 (-1)) t 10 p) t 11 q
  ks (ks k2 t 12 (k2 0 + p)) t 13 q
theorem rdy_1 (kf : KF) (t : Nat) : rdy kf t 1 = kf 1 := by rw [rdy, k_ks _ _ _ _ _ (by decide), k_ks _ _ _ _ _ (by decide), k_ks _ _ _ _ _ (by decide)]
theorem rgS_1 (b : Int32) (u : Nat) (s : KF × Nat) : (rgS b u s).1 1 = s.1 1 := by
  unfold rgS
  split
  · exact rdy_1 s.1 u
  · rfl
theorem rg_1 (kf : KF) (b : Int32) (i : Nat) : (lp (rgS b) i (kf, 0)).1 1 = kf 1 := by
  induction i with
  | zero => rfl
  | succ i ih => exact (rgS_1 b i _).trans ih
