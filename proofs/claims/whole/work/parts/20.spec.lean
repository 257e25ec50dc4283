/-! THE SPEC: what the reference does, as plain functions of the content kf of its row k and vf of its row v -/
abbrev KF : Type := Nat → Int32
abbrev VF : Type := Nat → Int64
def bI (b : Bool) : Int32 := if b then 1 else 0
theorem bI_nar (b : Bool) : narrow .boolean (.int (bI b)) = .int (bI b) := by cases b <;> rfl
theorem bI_z {b : Bool} : bI b = 0 ↔ b = false := by cases b <;> decide
/-- a loop: f 0, f 1, .. f (n - 1) -/
def lp {σ : Type} (f : Nat → σ → σ) : Nat → σ → σ
  | 0, s => s
  | n + 1, s => f n (lp f n s)
section RowsB
variable {G : GG} {d : Nat} {u : MI} {z0 n0 : Nat} {r : Option Value} {mF : Mem} {pc : Nat} {lv : List (Nat × Value)} {st : List Value} {m : Mem}
theorem e_if_eqB {b : Bool} {off : Int} (tgt : Nat) (hd : decode u.2.1 pc = .ok (.ifCond .eq off, 3)) (ht : (pc : Int) + off = (tgt : Int)) (k1 : b = false → EvB G d u z0 n0 r mF tgt lv st m) (k2 : b = true → EvB G d u z0 n0 r mF (pc + 3) lv st m) : EvB G d u z0 n0 r mF pc lv (.int (bI b) :: st) m := e_if_eq tgt hd ht (fun h => k1 (bI_z.mp h)) (fun h => k2 (by cases b; exact absurd rfl h; rfl))
theorem e_if_neB {b : Bool} {off : Int} (tgt : Nat) (hd : decode u.2.1 pc = .ok (.ifCond .ne off, 3)) (ht : (pc : Int) + off = (tgt : Int)) (k1 : b = true → EvB G d u z0 n0 r mF tgt lv st m) (k2 : b = false → EvB G d u z0 n0 r mF (pc + 3) lv st m) : EvB G d u z0 n0 r mF pc lv (.int (bI b) :: st) m := e_if_ne tgt hd ht (fun h => k1 (by cases b; exact absurd rfl h; rfl)) (fun h => k2 (bI_z.mp h))
-- branches on the sign of a comparison of longs
theorem e_lc_lt {x y : Int64} {off : Int} (tgt : Nat) (hd : decode u.2.1 pc = .ok (.ifCond .lt off, 3)) (ht : (pc : Int) + off = (tgt : Int)) (k1 : x < y → EvB G d u z0 n0 r mF tgt lv st m) (k2 : ¬ x < y → EvB G d u z0 n0 r mF (pc + 3) lv st m) : EvB G d u z0 n0 r mF pc lv (.int (lg_cmp x y) :: st) m := e_if_lt tgt hd ht (fun h => k1 ((lg_cmp_lt x y).mp h)) (fun h => k2 (mt (lg_cmp_lt x y).mpr h))
theorem e_lc_ge {x y : Int64} {off : Int} (tgt : Nat) (hd : decode u.2.1 pc = .ok (.ifCond .ge off, 3)) (ht : (pc : Int) + off = (tgt : Int)) (k1 : y ≤ x → EvB G d u z0 n0 r mF tgt lv st m) (k2 : ¬ y ≤ x → EvB G d u z0 n0 r mF (pc + 3) lv st m) : EvB G d u z0 n0 r mF pc lv (.int (lg_cmp x y) :: st) m := e_if_ge tgt hd ht (fun h => k1 ((lg_cmp_ge x y).mp h)) (fun h => k2 (mt (lg_cmp_ge x y).mpr h))
theorem e_lc_gt {x y : Int64} {off : Int} (tgt : Nat) (hd : decode u.2.1 pc = .ok (.ifCond .gt off, 3)) (ht : (pc : Int) + off = (tgt : Int)) (k1 : y < x → EvB G d u z0 n0 r mF tgt lv st m) (k2 : ¬ y < x → EvB G d u z0 n0 r mF (pc + 3) lv st m) : EvB G d u z0 n0 r mF pc lv (.int (lg_cmp x y) :: st) m := e_if_gt tgt hd ht (fun h => k1 ((lg_cmp_gt x y).mp h)) (fun h => k2 (mt (lg_cmp_gt x y).mpr h))
theorem e_lc_le {x y : Int64} {off : Int} (tgt : Nat) (hd : decode u.2.1 pc = .ok (.ifCond .le off, 3)) (ht : (pc : Int) + off = (tgt : Int)) (k1 : x ≤ y → EvB G d u z0 n0 r mF tgt lv st m) (k2 : ¬ x ≤ y → EvB G d u z0 n0 r mF (pc + 3) lv st m) : EvB G d u z0 n0 r mF pc lv (.int (lg_cmp x y) :: st) m := e_if_le tgt hd ht (fun h => k1 ((lg_cmp_le x y).mp h)) (fun h => k2 (mt (lg_cmp_le x y).mpr h))
theorem e_lc_eq {x y : Int64} {off : Int} (tgt : Nat) (hd : decode u.2.1 pc = .ok (.ifCond .eq off, 3)) (ht : (pc : Int) + off = (tgt : Int)) (k1 : x = y → EvB G d u z0 n0 r mF tgt lv st m) (k2 : ¬ x = y → EvB G d u z0 n0 r mF (pc + 3) lv st m) : EvB G d u z0 n0 r mF pc lv (.int (lg_cmp x y) :: st) m := e_if_eq tgt hd ht (fun h => k1 ((lg_cmp_eq x y).mp h)) (fun h => k2 (mt (lg_cmp_eq x y).mpr h))
theorem e_lc_ne {x y : Int64} {off : Int} (tgt : Nat) (hd : decode u.2.1 pc = .ok (.ifCond .ne off, 3)) (ht : (pc : Int) + off = (tgt : Int)) (k1 : ¬ x = y → EvB G d u z0 n0 r mF tgt lv st m) (k2 : x = y → EvB G d u z0 n0 r mF (pc + 3) lv st m) : EvB G d u z0 n0 r mF pc lv (.int (lg_cmp x y) :: st) m := e_if_ne tgt hd ht (fun h => k1 (mt (lg_cmp_eq x y).mpr h)) (fun h => k2 ((lg_cmp_eq x y).mp h))
end RowsB
def kg (kf : KF) (t w : Nat) : Int32 := kf (400 + 20 * t + w)
def ks (kf : KF) (t w : Nat) (x : Int32) : KF := upd kf (400 + 20 * t + w) x
def nT (kf : KF) : Nat := (kf 1).toNatClampNeg
def inL (x lo hi : Int64) : Bool := decide (lo ≤ x ∧ x ≤ hi)
def isDue (kf : KF) (t : Nat) : Bool := kg kf t 0 == 1 || kg kf t 0 == 2
/-- CLASS 0 -/
def c0 (kf : KF) (t : Nat) : Bool := isDue kf t && decide (0 < kg kf t 13)
def cls (kf : KF) (t : Nat) : Int32 := if c0 kf t then 0 else 1
def key (kf : KF) (vf : VF) (t : Nat) : Int64 := if c0 kf t then (kg kf t 12).toInt64 else vf t
def ahead (kf : KF) (vf : VF) (t u : Nat) : Bool := if c0 kf t = c0 kf u then (if key kf vf t = key kf vf u then decide (t < u) else decide (key kf vf t < key kf vf u)) else c0 kf t
/-- who holds the lock that w waits for -/
def nxt (kf : KF) (w : Nat) : Int32 := if kg kf w 6 = 1 then kf (240 + (kg kf w 7).toNatClampNeg) else -1
/-- from w up the chain of holders, at most f steps, till t is reached or nobody is left -/
def chn (kf : KF) (t : Nat) : Nat → Int32 → Int32
  | 0, w => w
  | f + 1, w => if w < 0 then w else if w = nI t then w else chn kf t f (nxt kf w.toNatClampNeg)
def rch (kf : KF) (t u : Nat) : Bool := decide (chn kf t (nT kf + 1) (nI u) = nI t)
/-- the foremost of t and of those whose chain leads to t -/
def stnd (kf : KF) (vf : VF) (t : Nat) : Nat := lp (fun u b => if rch kf t u && ahead kf vf u b then u else b) (nT kf) t
/-- who waits for a lock waits for one that is there, and holders are tasks -/
def CH (kf : KF) (n : Nat) : Prop := ∀ j, j < n → kg kf j 6 = 1 → ∃ l, l < 100 ∧ kg kf j 7 = nI l ∧ (kf (240 + l) < 0 ∨ ∃ i, i < n ∧ kf (240 + l) = nI i)
theorem nT_of {kf : KF} {n : Nat} (h : kf 1 = nI n) (hn : n ≤ 200) : nT kf = n := by
  unfold nT
  rw [h]
  exact nI_clamp (by omega)
theorem chn_s {kf : KF} {t f j : Nat} (hj : j < 2 ^ 31) (h : ¬ nI j = nI t) : chn kf t (f + 1) (nI j) = chn kf t f (nxt kf j) := by
  rw [chn, if_neg (nI_pos hj), if_neg h, nI_clamp hj]
theorem lp_lt {n : Nat} (p : Nat → Nat → Bool) {t i : Nat} (ht : t < 200) (hi : i ≤ n) (hn : n ≤ 200) : lp (fun u b => if p u b then u else b) i t < 200 := by
  induction i with
  | zero => exact ht
  | succ i ih =>
    show (if p i _ then i else _) < 200
    split
    · omega
    · exact ih (by omega)
theorem nI_lit (n : Nat) : nI (OfNat.ofNat n) = OfNat.ofNat n := rfl
theorem nI_one : nI 1 = 1 := rfl
theorem bI_t {b : Bool} (h : b = true) : some (Value.int (bI b)) = some (.int (nI 1)) := by subst h; rfl
theorem bI_f {b : Bool} (h : b = false) : some (Value.int (bI b)) = some (.int (nI 0)) := by subst h; rfl
theorem kg_lt {t w : Nat} (h : t < 200) (hw : w < 20) : 400 + 20 * t + w < 142000 := by omega
theorem cls_0 {kf : KF} {t : Nat} : cls kf t = 0 ↔ c0 kf t = true := by
  unfold cls
  cases c0 kf t <;> decide
theorem cls_n {kf : KF} {t : Nat} : ¬ cls kf t = 0 ↔ c0 kf t = false := by
  rw [cls_0]
  cases c0 kf t <;> decide
theorem cls_eq {kf : KF} {t u : Nat} : cls kf t = cls kf u ↔ c0 kf t = c0 kf u := by
  unfold cls
  cases c0 kf t <;> cases c0 kf u <;> decide
theorem cls_lt {kf : KF} {t u : Nat} (h : ¬ cls kf t = cls kf u) : cls kf t < cls kf u ↔ c0 kf t = true := by
  rw [cls_eq] at h
  unfold cls
  cases h1 : c0 kf t <;> cases h2 : c0 kf u <;> simp [h1, h2] at h ⊢
/-- a BODY is counted -/
def bd (kf : KF) (b : Nat) : KF := upd kf (220 + b) (kf (220 + b) + nI 1)
def rdy (kf : KF) (t : Nat) : KF := ks (ks (ks kf t 6 (nI 0)) t 7 (-1)) t 8 (-1)
def wts (kf : KF) (t : Nat) (a b c : Int32) : KF :=
  let k1 := ks (ks (ks kf t 6 a) t 7 b) t 8 c
  let q := kg k1 t 0
  let k2 := if q = 3 ∨ q = 4 then bd k1 4 else k1
  let k3 := if q = 2 then bd k2 5 else k2
  bd k3 3
def isOfB (kind n : Int32) : Bool := n == 0 || n == kind || (n == 1 && kind == 2) || (n == 3 && kind == 4)
def payK (kf : KF) (t : Nat) : KF := bd (ks kf t 3 ((nI 1000 + kg kf t 3) - (nI 1000 + kg kf t 3) / kg kf t 2 * kg kf t 2)) 0
def payV (kf : KF) (vf : VF) (t : Nat) : VF := vp_updL vf t (vf t + ((nI 1000 + kg kf t 3) / kg kf t 2).toInt64)
/-- PAYS -/
def paysF (kf : KF) (vf : VF) (t : Nat) : KF × VF :=
  let q := kg kf t 0
  let k1 := bd kf (if isDue kf t then 7 else 6)
  let sp := isDue kf t && decide (0 < kg k1 t 13)
  let k2 := if sp then ks k1 t 13 (kg k1 t 13 - nI 1) else k1
  if sp = true ∧ q = 1 then (k2, vf) else
    let k3 := if q = 2 then bd k2 1 else k2
    let k4 := if q = 4 then bd k3 2 else k3
    let k5 := payK k4 t
    let v5 := payV k4 vf t
    if q = 4 then (payK k5 t, payV k5 v5 t) else (k5, v5)
theorem upd_eq (f : Nat → Int32) (k : Nat) (x : Int32) : upd f k x k = x := by simp [upd]
theorem upd_ne (f : Nat → Int32) {k j : Nat} (x : Int32) (h : j ≠ k) : upd f k x j = f j := by simp [upd, h]
theorem kg_bd (kf : KF) (b t w : Nat) (h : b < 180) : kg (bd kf b) t w = kg kf t w := upd_ne _ _ (by omega)
theorem kg_eq (kf : KF) (t w : Nat) (x : Int32) : kg (ks kf t w x) t w = x := upd_eq _ _ _
theorem kg_ne (kf : KF) (t w s v : Nat) (x : Int32) (hw : w < 20) (hv : v < 20) (h : v ≠ w) : kg (ks kf t w x) s v = kg kf s v := upd_ne _ _ (by omega)
theorem kg_nt (kf : KF) (t w s v : Nat) (x : Int32) (hw : w < 20) (hv : v < 20) (h : s ≠ t) : kg (ks kf t w x) s v = kg kf s v := upd_ne _ _ (by omega)
theorem k_ks (kf : KF) (t w j : Nat) (x : Int32) (h : j < 400) : ks kf t w x j = kf j := upd_ne _ _ (by omega)
theorem k_bd (kf : KF) (b j : Nat) (h : j ≠ 220 + b) : bd kf b j = kf j := upd_ne _ _ h
theorem kg_payK (kf : KF) (t s v : Nat) (hv : v < 20) (h : v ≠ 3) : kg (payK kf t) s v = kg kf s v := by rw [payK, kg_bd _ _ _ _ (by decide), kg_ne _ _ _ _ _ _ (by decide) hv h]
theorem stnd_lt {kf : KF} {vf : VF} {t n : Nat} (ht : t < 200) (hn : kf 1 = nI n) (hn2 : n ≤ 200) : stnd kf vf t < 200 := by
  unfold stnd
  rw [nT_of hn hn2]
  exact lp_lt (n := n) (fun u b => rch kf t u && ahead kf vf u b) ht (Nat.le_refl _) hn2
def oI : Option Nat → Int32
  | none => -1
  | some b => nI b
/-- of those u below n with P u, the one whose standing is foremost -/
def pkS (kf : KF) (vf : VF) (P : Nat → Bool) (u : Nat) (B : Option Nat) : Option Nat :=
  if P u then (match B with | none => some u | some b => if ahead kf vf (stnd kf vf u) (stnd kf vf b) then some u else some b) else B
def pick (kf : KF) (vf : VF) (P : Nat → Bool) (n : Nat) : Option Nat := lp (pkS kf vf P) n none
theorem pick_lt {kf : KF} {vf : VF} {P : Nat → Bool} : ∀ {n b : Nat}, pick kf vf P n = some b → b < n ∧ P b = true := by
  intro n
  induction n with
  | zero => intro b h; cases h
  | succ n ih =>
    intro b h
    have h' : pkS kf vf P n (pick kf vf P n) = some b := h
    unfold pkS at h'
    split at h'
    · rename_i hp
      cases hq : pick kf vf P n with
      | none =>
        rw [hq] at h'
        cases h'
        exact ⟨Nat.lt_succ_self n, hp⟩
      | some c =>
        rw [hq] at h'
        dsimp only at h'
        split at h'
        · cases h'
          exact ⟨Nat.lt_succ_self n, hp⟩
        · cases h'
          exact ⟨Nat.lt_succ_of_lt (ih hq).1, (ih hq).2⟩
    · exact ⟨Nat.lt_succ_of_lt (ih h').1, (ih h').2⟩
def wtP (kf : KF) (l u : Nat) : Bool := kg kf u 6 == 1 && kg kf u 7 == nI l
/-- lock l goes to the foremost who waits for it -/
def psF (kf : KF) (vf : VF) (l : Nat) : KF :=
  match pick kf vf (wtP kf l) (nT kf) with
  | none => upd kf (240 + l) (-1)
  | some b => bd (rdy (upd kf (240 + l) (nI b)) b) (if kg (rdy (upd kf (240 + l) (nI b)) b) b 0 = 4 then 11 else 10)
/-- bell b is rung -/
def rgS (b : Int32) (u : Nat) (s : KF × Nat) : KF × Nat := if kg s.1 u 6 = 2 ∧ kg s.1 u 7 = b then (rdy s.1 u, s.2 + 1) else s
def rgF (kf : KF) (b : Int32) : KF × Nat := lp (rgS b) (nT kf) (kf, 0)
/-- the least VIRTUAL of those not ended -/
def lvS (kf : KF) (vf : VF) (u : Nat) (s : Bool × Int64) : Bool × Int64 := if kg kf u 6 = 4 ∨ (s.1 = true ∧ ¬ vf u < s.2) then s else (true, vf u)
def lvF (kf : KF) (vf : VF) (n : Nat) : Bool × Int64 := lp (lvS kf vf) n (false, 0)
/-- a new task t -/
def adK (kf : KF) (t : Nat) (a b c p q : Int32) : KF :=
  let k1 := lp (fun i k => ks k t i (nI 0)) 20 (upd kf 1 (nI (t + 1)))
  let k2 := ks (ks (ks (ks (ks (ks (ks (ks k1 t 0 a) t 1 b) t 2 c) t 7 (-1)) t 8 (-1)) t 14 (-1)) t 10 p) t 11 q
  ks (ks k2 t 12 (k2 0 + p)) t 13 q
theorem rdy_1 (kf : KF) (t : Nat) : rdy kf t 1 = kf 1 := by rw [rdy, k_ks _ _ _ _ _ (by decide), k_ks _ _ _ _ _ (by decide), k_ks _ _ _ _ _ (by decide)]
theorem rgS_1 (b : Int32) (u : Nat) (s : KF × Nat) : (rgS b u s).1 1 = s.1 1 := by
  unfold rgS
  split
  · exact rdy_1 s.1 u
  · rfl
theorem rg_1 (kf : KF) (b : Int32) (i : Nat) : (lp (rgS b) i (kf, 0)).1 1 = kf 1 := by
  induction i with
  | zero => rfl
  | succ i ih => exact (rgS_1 b i _).trans ih
/-! calls from outside -/
def inI (x lo hi : Int32) : Bool := decide (lo ≤ x ∧ x ≤ hi)
theorem i64_le (x y : Int32) : x.toInt64 ≤ y.toInt64 ↔ x ≤ y := by rw [Int64.le_iff_toInt_le, Int32.le_iff_toInt_le, Int32.toInt_toInt64, Int32.toInt_toInt64]
theorem inL_I (x lo hi : Int32) : inL x.toInt64 lo.toInt64 hi.toInt64 = inI x lo hi := by simp [inL, inI, i64_le]
theorem inI_n {x : Int32} {a b : Nat} (ha : a < 2 ^ 31) (hb : b < 2 ^ 31) (h : inI x (nI a) (nI b) = true) : ∃ j, a ≤ j ∧ j ≤ b ∧ x = nI j := by
  have h' := of_decide_eq_true h
  have h0 : ¬ x < 0 := Int32.not_lt.mpr (Int32.le_trans (nI_pos' ha) h'.1)
  obtain ⟨j, hj, rfl⟩ := nI_of h0
  exact ⟨j, (nI_leI ha hj).mp h'.1, (nI_leI hj hb).mp h'.2, rfl⟩
theorem inI_of {a b j : Nat} (h1 : a ≤ j) (h2 : j ≤ b) (hb : b < 2 ^ 31) : inI (nI j) (nI a) (nI b) = true := decide_eq_true ⟨(nI_leI (by omega) (by omega)).mpr h1, (nI_leI (by omega) hb).mpr h2⟩
theorem inI_f {a b j : Nat} (h : ¬ (a ≤ j ∧ j ≤ b)) (ha : a < 2 ^ 31) (hb : b < 2 ^ 31) (hj : j < 2 ^ 31) : inI (nI j) (nI a) (nI b) = false := decide_eq_false (fun q => h ⟨(nI_leI ha hj).mp q.1, (nI_leI hj hb).mp q.2⟩)
/-- t is a task's number -/
def tIn (kf : KF) (t : Int32) : Bool := inI t (nI 0) (kf 1 - nI 1)
theorem tIn_n {kf : KF} {n : Nat} {t : Int32} (hn : kf 1 = nI n) (hn2 : n ≤ 200) (h : tIn kf t = true) : ∃ j, j < n ∧ t = nI j := by
  unfold tIn at h
  rw [hn] at h
  by_cases h0 : n = 0
  · subst h0
    have h' := of_decide_eq_true h
    exact absurd (Int32.le_trans h'.1 h'.2) (by decide)
  · rw [pk_sub (by omega)] at h
    obtain ⟨j, h1, h2, h3⟩ := inI_n (by decide) (by omega) h
    exact ⟨j, by omega, h3⟩
theorem tIn_of {kf : KF} {n j : Nat} (hn : kf 1 = nI n) (hn2 : n ≤ 200) (h : j < n) : tIn kf (nI j) = true := by
  unfold tIn
  rw [hn, pk_sub (by omega)]
  exact inI_of (by omega) (by omega) (by omega)
def rfs (kf : KF) (why : Int32) : Int32 := if 0 < why then why else if kf 6 = 1000 then 5 else 0
def rfK (kf : KF) (why : Int32) : KF := if rfs kf why = 0 then upd kf 6 (kf 6 + nI 1) else kf
def rfB (kf : KF) (why : Int32) : Bool := decide (0 < rfs kf why)
theorem MW.s {m : Mem} {X : XX} {f a : Nat} {x : Int32} (h : MW m X) : MW (sI m f a x) X := h
theorem rf_pos {kf : KF} {why : Int32} (h : 0 < why) : rfs kf why = why := by simp [rfs, h]
theorem rf_b {kf : KF} {why : Int32} (h : rfB kf why = false) : rfs kf why = 0 := by
  have h' : ¬ 0 < rfs kf why := of_decide_eq_false h
  unfold rfs at h' ⊢
  split
  · rename_i q
    rw [if_pos q] at h'
    exact absurd q h'
  · rename_i q
    rw [if_neg q] at h'
    split
    · rename_i z
      rw [if_pos z] at h'
      exact absurd (by decide) h'
    · rfl
def lvg (kf : KF) (t : Int32) : Bool := tIn kf t && decide (¬ kg kf t.toNatClampNeg 6 = 4)
def mxI (x y : Int32) : Int32 := if x < y then y else x
def mnI (x y : Int32) : Int32 := if y < x then y else x
def mxL (x y : Int64) : Int64 := if y < x then x else y
def whyLock (kf : KF) (l : Int32) : Int32 := if inI l (nI 0) (nI 99) then (if kf (240 + l.toNatClampNeg) = -2 then nI 0 else nI 2) else nI 1
def lockK (kf : KF) (l : Int32) : KF := if rfB kf (whyLock kf l) then rfK kf (whyLock kf l) else upd (rfK kf (whyLock kf l)) (240 + l.toNatClampNeg) (-1)
def whyProc (n : Int32) : Int32 := if inI n (nI 1) (nI 4) then nI 0 else nI 1
def procK (kf : KF) (n : Int32) : KF := if rfB kf (whyProc n) then rfK kf (whyProc n) else upd (rfK kf (whyProc n)) 2 n
def procR (kf : KF) (n : Int32) : Int32 := if rfB kf (whyProc n) then -1 else kf 2
def whyRing (b : Int32) : Int32 := if inI b (nI 0) (nI 15) then nI 0 else nI 1
def ringK (kf : KF) (b : Int32) : KF := if rfB kf (whyRing b) then rfK kf (whyRing b) else (rgF (rfK kf (whyRing b)) b).1
def ringR (kf : KF) (b : Int32) : Int32 := if rfB kf (whyRing b) then -1 else nI (rgF (rfK kf (whyRing b)) b).2
def whyShare (kf : KF) (t s : Int32) : Int32 := if lvg kf t then (if inI s (nI 1) (nI 1000) then nI 0 else nI 1) else nI 3
def shareK (kf : KF) (t s : Int32) : KF := if rfB kf (whyShare kf t s) then rfK kf (whyShare kf t s) else
  let k1 := ks (rfK kf (whyShare kf t s)) t.toNatClampNeg 2 s
  ks k1 t.toNatClampNeg 3 (mnI (kg k1 t.toNatClampNeg 3) (s - nI 1))
def shareR (kf : KF) (t s : Int32) : Int32 := if rfB kf (whyShare kf t s) then -1 else kg kf t.toNatClampNeg 2
def whyDead (kf : KF) (t p b : Int32) : Int32 := if lvg kf t then (if isDue kf t.toNatClampNeg then (if inI p (nI 1) (nI 1000) && inI b (nI 0) p then nI 0 else nI 1) else nI 4) else nI 3
def deadK (kf : KF) (t p b : Int32) : KF := if rfB kf (whyDead kf t p b) then rfK kf (whyDead kf t p b) else
  let k1 := ks (ks (rfK kf (whyDead kf t p b)) t.toNatClampNeg 10 p) t.toNatClampNeg 11 b
  ks (ks k1 t.toNatClampNeg 12 (k1 0 + p)) t.toNatClampNeg 13 b
def whyTask (kf : KF) (k p s : Int32) : Int32 := if inI k (nI 0) (nI 4) && inI p (nI 0) (nI 31) && inI s (nI 1) (nI 1000) then (if kf 1 = 200 then nI 2 else nI 0) else nI 1
def taskK (kf : KF) (k p s : Int32) : KF := if rfB kf (whyTask kf k p s) then rfK kf (whyTask kf k p s) else adK (rfK kf (whyTask kf k p s)) (nT kf) k p s (nI 100) (nI 0)
def taskV (kf : KF) (vf : VF) (k p s : Int32) : VF := if rfB kf (whyTask kf k p s) then vf else vp_updL vf (nT kf) (lvF (rfK kf (whyTask kf k p s)) vf (nT kf)).2
def taskR (kf : KF) (k p s : Int32) : Int32 := if rfB kf (whyTask kf k p s) then -1 else kf 1
theorem rfK_1 {kf : KF} {w : Int32} {j : Nat} (h : j ≠ 6) : rfK kf w j = kf j := by
  unfold rfK
  split
  · exact upd_ne _ _ h
  · rfl
theorem kg_rfK {kf : KF} {w : Int32} (t v : Nat) : kg (rfK kf w) t v = kg kf t v := rfK_1 (by omega)
def plen (kf : KF) (p : Nat) : Nat := (kf (340 + p)).toNatClampNeg
def byt (e : Int64) (i : Nat) : Int32 := (e >>> ((nI (56 - 8 * i)).toInt64 &&& 63)).toInt32.toInt8.toInt32
def whyProg (kf : KF) (p n : Int32) : Int32 := if inI p (nI 0) (nI 31) && inI n (nI 0) (nI 8) then (if 1000 < plen kf p.toNatClampNeg + n.toNatClampNeg then nI 2 else nI 0) else nI 1
def progB (kf : KF) (p h : Nat) (e : Int64) (n : Nat) : KF := lp (fun i k => upd k (30000 + 1000 * p + h + i) (byt e i)) n kf
def progK (kf : KF) (p : Int32) (e : Int64) (n : Int32) : KF := if rfB kf (whyProg kf p n) then rfK kf (whyProg kf p n) else
  upd (progB (rfK kf (whyProg kf p n)) p.toNatClampNeg (plen kf p.toNatClampNeg) e n.toNatClampNeg) (340 + p.toNatClampNeg) (nI (plen kf p.toNatClampNeg + n.toNatClampNeg))
def progR (kf : KF) (p n : Int32) : Int32 := if rfB kf (whyProg kf p n) then -1 else nI (plen kf p.toNatClampNeg + n.toNatClampNeg)
theorem rfB_pos {kf : KF} {w : Int32} (h : 0 < w) : rfB kf w = true := decide_eq_true (by rw [rf_pos h]; exact h)
theorem lvg_n {kf : KF} {n : Nat} {t : Int32} (hn : kf 1 = nI n) (hn2 : n ≤ 200) (h : lvg kf t = true) : ∃ j, j < n ∧ t = nI j ∧ ¬ kg kf j 6 = 4 := by
  unfold lvg at h
  rw [Bool.and_eq_true] at h
  obtain ⟨j, hj, rfl⟩ := tIn_n hn hn2 h.1
  refine ⟨j, hj, rfl, ?_⟩
  have := of_decide_eq_true h.2
  rw [nI_clamp (by omega)] at this
  exact this
theorem inc_n {K x : Int32} {c : Nat} (hK : K = nI c) (hc : c < 2 ^ 31) (h : inI x (nI 0) (K - nI 1) = true) : ∃ j, j < c ∧ x = nI j := by
  rw [hK] at h
  by_cases h0 : c = 0
  · subst h0
    have h' := of_decide_eq_true h
    exact absurd (Int32.le_trans h'.1 h'.2) (by decide)
  · rw [pk_sub (by omega)] at h
    obtain ⟨j, h1, h2, h3⟩ := inI_n (by decide) (by omega) h
    exact ⟨j, by omega, h3⟩
theorem inc_m {K x : Int32} (hK : K = -1) (h : inI x (nI 0) (K - nI 1) = true) : False := by
  have h' := of_decide_eq_true h
  rw [hK] at h'
  exact absurd (Int32.le_trans h'.1 h'.2) (by decide)
def chsR (kf : KF) (p : Int32) : Int32 := if inI p (nI 0) (nI 3) then kf (7 + p.toNatClampNeg) else -1
def abR (kf : KF) (t w : Int32) : Int32 := if tIn kf t && inI w (nI 0) (nI 14) then (if inI w (nI 10) (nI 13) && !isDue kf t.toNatClampNeg then -1 else kg kf t.toNatClampNeg w.toNatClampNeg) else -1
def virR (kf : KF) (vf : VF) (t : Int32) : Int64 := if tIn kf t then vf t.toNatClampNeg else -1
def smR (kf : KF) (t i : Int32) : Int32 := if tIn kf t && inI i (nI 0) (kg kf t.toNatClampNeg 14 - nI 1) then kf (4400 + 128 * t.toNatClampNeg + i.toNatClampNeg) else nI 0
def stR (kf : KF) (vf : VF) (t w : Int32) : Int64 := if lvg kf t && inI w (nI 0) (nI 2) then (if w = 0 then (cls kf (stnd kf vf t.toNatClampNeg)).toInt64 else if w = 1 then key kf vf (stnd kf vf t.toNatClampNeg) else lN (stnd kf vf t.toNatClampNeg)) else -1
def hoR (kf : KF) (l : Int32) : Int32 := if inI l (nI 0) (nI 99) then kf (240 + l.toNatClampNeg) else -2
def rgdR (kf : KF) (k : Int32) : Int32 := if inI k (nI 0) (kf 5 - nI 1) then kf (16 + k.toNatClampNeg) else -1
def rowB (kf : KF) (k w : Int32) : Bool := inI k (nI 0) (kf 3 - nI 1) && inI w (nI 0) (nI 4)
def rowR (kf : KF) (k w : Int32) : Int32 := if rowB kf k w then kf (62000 + 5 * k.toNatClampNeg + w.toNatClampNeg) else -1
def fgK (kf : KF) (k w b : Int32) : KF := if rowB kf k w then upd kf (62000 + 5 * k.toNatClampNeg + w.toNatClampNeg) (kf (62000 + 5 * k.toNatClampNeg + w.toNatClampNeg) + b) else kf
def trR (kf : KF) (b : Int32) : Int32 := if inI b (nI 0) (nI 11) then kf (220 + b.toNatClampNeg) else -1
theorem row_n {kf : KF} {k w : Int32} {c : Nat} (hr : kf 3 = nI c) (hc : c ≤ 8000) (h : rowB kf k w = true) : ∃ i j, i < c ∧ j ≤ 4 ∧ k = nI i ∧ w = nI j := by
  unfold rowB at h
  rw [Bool.and_eq_true] at h
  obtain ⟨i, hi, e1⟩ := inc_n hr (by omega) h.1
  obtain ⟨j, -, hj, e2⟩ := inI_n (by decide) (by decide) h.2
  exact ⟨i, j, hi, hj, e1, e2⟩
/-- f payments of u till it is behind (key, number) -/
def pmF (kf : KF) (vf : VF) (u : Nat) (ke : Int64) (s : Nat) : Int64 :=
  let need := (ke - vf u) + (if u ≤ s then lN 1 else lN 0)
  if lN 0 < need then
    (let least := need * (kg kf u 2).toInt64 - (kg kf u 3).toInt64
     if lN 0 < least then (least + lN 999) / lN 1000 else lN 0)
  else lN 0
def ckS (kf : KF) (i : Nat) (r : Option Nat) : Option Nat := match r with | some x => some x | none => if kf (62000 + i) = kf (102000 + i) then none else some i
/-- the first place, of c, where the rows kept and the true rows differ -/
def ckF (kf : KF) (c : Nat) : Option Nat := lp (ckS kf) c none
theorem ck_keep {kf : KF} {i x : Nat} (h : ckF kf i = some x) : ∀ k, ckF kf (i + k) = some x := by
  intro k
  induction k with
  | zero => exact h
  | succ k ih =>
    show ckS kf (i + k) (ckF kf (i + k)) = some x
    rw [ih]
    rfl
def ckN (kf : KF) : Nat := 5 * (kf 3).toNatClampNeg
def ckR (kf : KF) : Int32 := match ckF kf (ckN kf) with | none => -1 | some i => nI (i / 5)
def ckT (kf : KF) : Int32 := match ckF kf (ckN kf) with | none => kf 0 | some i => kf (102000 + i / 5 * 5)
def cnS (kf : KF) (u : Nat) (s : Int32 × Int32) : Int32 × Int32 := (s.1 + (if kg kf u 6 = 4 then nI 0 else nI 1), s.2 + (if kg kf u 6 = 0 then nI 1 else nI 0))
def cnF (kf : KF) (n : Nat) : Int32 × Int32 := lp (cnS kf) n (nI 0, nI 0)
def cnR (kf : KF) (w : Int32) : Int32 :=
  if w = 0 then kf 0 else if w = 1 then kf 1 else if w = 2 then (cnF kf (nT kf)).1 else if w = 3 then (cnF kf (nT kf)).2 else if w = 4 then kf 3 else if w = 5 then kf 2 else if w = 6 then kf 4 else if w = 7 then kf 6 else -1
theorem inI_out {x : Int32} {a b : Nat} (ha : a < 2 ^ 31) (hb : b < 2 ^ 31) (h : inI x (nI a) (nI b) = false) : x.toInt < (a : Int) ∨ (b : Int) < x.toInt := by
  have h' := of_decide_eq_false h
  rw [Int32.le_iff_toInt_le, Int32.le_iff_toInt_le, nI_toInt ha, nI_toInt hb] at h'
  omega
def bdS (kf : KF) (vf : VF) (t s u : Nat) (q : Nat × Int64) : Nat × Int64 :=
  if kg kf u 6 = 0 ∧ ¬ u = t ∧ ahead kf vf (stnd kf vf u) s = true then
    (if stnd kf vf u = u then
      (let left := if isDue kf u then kg kf u 13 else nI 0
       if cls kf s = 0 then (q.1, q.2 + left.toInt64)
       else
        (let f := pmF kf vf u (key kf vf s) s
         (q.1, q.2 + (if kg kf u 0 = 1 then left.toInt64 + f else if kg kf u 0 = 2 then mxL left.toInt64 f else if kg kf u 0 = 4 then (f + lN 1) / lN 2 else f))))
     else (q.1 + 1, q.2))
  else q
def bdF (kf : KF) (vf : VF) (t : Nat) : Nat × Int64 := lp (bdS kf vf t (stnd kf vf t)) (nT kf) (0, lN 0)
def bdR (kf : KF) (vf : VF) (t : Int32) : Int64 :=
  if tIn kf t && decide (kg kf t.toNatClampNeg 6 = 0) then
    (if nI (bdF kf vf t.toNatClampNeg).1 < kf 2 then (bdF kf vf t.toNatClampNeg).2 / (kf 2 - nI (bdF kf vf t.toNatClampNeg).1).toInt64 + lN 1 else -1)
  else -1
theorem bdS_le (kf : KF) (vf : VF) (t s u : Nat) (q : Nat × Int64) : (bdS kf vf t s u q).1 ≤ q.1 + 1 := by
  unfold bdS
  split
  · split
    · dsimp only
      split
      · exact Nat.le_succ _
      · exact Nat.le_succ _
    · exact Nat.le_refl _
  · exact Nat.le_succ _
theorem bd_le {kf : KF} {vf : VF} {t s : Nat} : ∀ i, (lp (bdS kf vf t s) i (0, lN 0)).1 ≤ i := by
  intro i
  induction i with
  | zero => exact Nat.le_refl _
  | succ i ih => exact Nat.le_trans (bdS_le kf vf t s i _) (Nat.succ_le_succ ih)
