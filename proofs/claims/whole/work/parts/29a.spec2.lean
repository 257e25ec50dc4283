/-! digest, image, load, program: the spec -/
def dg (d x : Int64) : Int64 := d * lN 31 + x
def mny (kf : KF) (t : Nat) : Nat := (kg kf t 14).toNatClampNeg
def dgA (kf : KF) (t : Nat) (i : Nat) (d : Int64) : Int64 := dg d (abR kf (nI t) (nI i)).toInt64
def dgM (kf : KF) (t : Nat) (i : Nat) (d : Int64) : Int64 := dg d (kf (4400 + 128 * t + i)).toInt64
def dgT (kf : KF) (vf : VF) (t : Nat) (d : Int64) : Int64 := lp (dgM kf t) (mny kf t) (dg (lp (dgA kf t) 15 d) (vf t))
def dgK (kf : KF) (o i : Nat) (d : Int64) : Int64 := dg d (kf (o + i)).toInt64
def dg0 (kf : KF) : Int64 := dg (dg (dg (lN 7) (kf 0).toInt64) (kf 1).toInt64) (kf 2).toInt64
def dg1 (kf : KF) (vf : VF) : Int64 := lp (dgT kf vf) (nT kf) (dg0 kf)
def dg2 (kf : KF) (vf : VF) : Int64 := lp (dgK kf 240) 100 (dg1 kf vf)
def dg3 (kf : KF) (vf : VF) : Int64 := lp (dgK kf 62000) (ckN kf) (dg2 kf vf)
def dgF (kf : KF) (vf : VF) : Int64 := lp (dgK kf 220) 12 (dg3 kf vf)
/-- row of SHORT numbers: none, or at most 127 -/
def HM (kf : KF) (n : Nat) : Prop := ∀ j, j < n → kg kf j 14 = -1 ∨ ∃ c, c ≤ 127 ∧ kg kf j 14 = nI c
theorem mny_le {kf : KF} {n j : Nat} (h : HM kf n) (hj : j < n) : mny kf j ≤ 127 := by
  unfold mny
  rcases h j hj with h | ⟨c, hc, h⟩
  · rw [h]
    decide
  · rw [h, nI_clamp (by omega)]
    exact hc
theorem mny_cmp {kf : KF} {n j : Nat} (h : HM kf n) (hj : j < n) : ∀ q, q ≤ 200 → (kg kf j 14 ≤ nI q ↔ mny kf j ≤ q) := by
  intro q hq
  unfold mny
  rcases h j hj with h | ⟨c, hc, h⟩
  · rw [h]
    exact ⟨fun _ => Nat.zero_le _, fun _ => Int32.le_trans (by decide) (nI_pos' (n := q) (by omega))⟩
  · rw [h, nI_clamp (by omega)]
    exact nI_leI (by omega) (by omega)
def cpF {α : Type} (f g : Nat → α) (i : Nat) : Nat → α := fun j => if j < i then f j else g j
theorem cp_0 {α : Type} (f g : Nat → α) : cpF f g 0 = g := by
  funext j
  simp [cpF]
theorem cp_s (f g : Nat → Int32) (i : Nat) : upd (cpF f g i) i (f i) = cpF f g (i + 1) := by
  funext j
  by_cases h : j = i
  · subst h
    simp [upd, cpF]
  · by_cases h2 : j < i
    · simp [upd, cpF, h, h2, Nat.lt_succ_of_lt h2]
    · simp [upd, cpF, h, h2, show ¬ j < i + 1 by omega]
theorem cp_sL (f g : Nat → Int64) (i : Nat) : vp_updL (cpF f g i) i (f i) = cpF f g (i + 1) := by
  funext j
  by_cases h : j = i
  · subst h
    simp [vp_updL, cpF]
  · by_cases h2 : j < i
    · simp [vp_updL, cpF, h, h2, Nat.lt_succ_of_lt h2]
    · simp [vp_updL, cpF, h, h2, show ¬ j < i + 1 by omega]
def LN (kf : KF) : Prop := ∀ p, p < 32 → kf (340 + p) = -1 ∨ ∃ c, c ≤ 1000 ∧ kf (340 + p) = nI c
theorem plen_le {kf : KF} (h : LN kf) {p : Nat} (hp : p < 32) : plen kf p ≤ 1000 := by
  unfold plen
  rcases h p hp with h | ⟨c, hc, h⟩
  · rw [h]
    decide
  · rw [h, nI_clamp (by omega)]
    exact hc
theorem mx_len {kf : KF} (h : LN kf) {p : Nat} (hp : p < 32) : mxI (kf (340 + p)) (nI 0) = nI (plen kf p) := by
  unfold plen mxI
  rcases h p hp with h | ⟨c, hc, h⟩
  · rw [h]
    decide
  · rw [h, nI_clamp (by omega), if_neg (show ¬ nI c < nI 0 from nI_pos (by omega))]
def imgM (m : Mem) (X : XX) (kf : KF) (vf : VF) : Mem := sI (sRL (sRI m X.2.2.2.1 (cpF kf (aI m X.2.2.2.1) 142000)) X.2.2.2.2.1 (cpF vf (aL m X.2.2.2.2.1) 200)) 124 X.1 (nI 1)
theorem MW.kkl {m : Mem} {X : XX} (h : MW m X) : X.2.2.2.1 ≠ X.2.2.2.2.2 := fun e => by
  have h1 := h.2.2.2.2.2.2.2.2.2.2.1
  have h2 := h.2.2.2.2.2.2.2.2.2.2.2.2.2.2.1
  rw [e, h2] at h1
  cases h1
theorem mm_kk {m : Mem} {X : XX} (h : MW m X) (S : MS) : aI (MM m X S) X.2.2.2.1 = aI m X.2.2.2.1 := by
  show va_up (va_up (aI m) X.2.1 S.1) X.2.2.2.2.2 S.2.2 X.2.2.2.1 = _
  rw [vu_ne _ _ h.kkl, vu_ne _ _ (Ne.symm h.2.2.2.2.2.2.2.2.2.2.2.2.2.2.2.2.1)]
theorem mm_vv {m : Mem} {X : XX} (h : MW m X) (S : MS) : aL (MM m X S) X.2.2.2.2.1 = aL m X.2.2.2.2.1 := by
  show va_up (aL m) X.2.2.1 S.2.1 X.2.2.2.2.1 = _
  rw [vu_ne _ _ (Ne.symm h.2.2.2.2.2.2.2.2.2.2.2.2.2.2.2.2.2)]
theorem mm_skk {m : Mem} {X : XX} (h : MW m X) (S : MS) (f : Nat → Int32) (j : Nat) (x : Int32) : sAI (MM (sRI m X.2.2.2.1 f) X S) X.2.2.2.1 j x = MM (sRI m X.2.2.2.1 (upd f j x)) X S := by
  rw [sAI_row, mm_kk (m := sRI m X.2.2.2.1 f) h]
  have e0 : aI (sRI m X.2.2.2.1 f) X.2.2.2.1 = f := vu_eq _ _ _
  rw [e0]
  have e : va_up (va_up (va_up (va_up (aI m) X.2.2.2.1 f) X.2.1 S.1) X.2.2.2.2.2 S.2.2) X.2.2.2.1 (upd f j x) = va_up (va_up (va_up (aI m) X.2.2.2.1 (upd f j x)) X.2.1 S.1) X.2.2.2.2.2 S.2.2 := by
    rw [vu_sw _ _ _ (Ne.symm h.kkl), vu_sw (va_up (aI m) X.2.2.2.1 f) _ _ h.2.2.2.2.2.2.2.2.2.2.2.2.2.2.2.2.1, vu_vu]
  show (gT m, gN m, gI m, gL m, gP m, va_up (va_up (va_up (va_up (aI m) X.2.2.2.1 f) X.2.1 S.1) X.2.2.2.2.2 S.2.2) X.2.2.2.1 (upd f j x), va_up (aL m) X.2.2.1 S.2.1, aP m, zz m, nn m) = (gT m, gN m, gI m, gL m, gP m, va_up (va_up (va_up (aI m) X.2.2.2.1 (upd f j x)) X.2.1 S.1) X.2.2.2.2.2 S.2.2, va_up (aL m) X.2.2.1 S.2.1, aP m, zz m, nn m)
  rw [e]
theorem mm_svv {m : Mem} {X : XX} (h : MW m X) (S : MS) (f : Nat → Int64) (j : Nat) (x : Int64) : sAL (MM (sRL m X.2.2.2.2.1 f) X S) X.2.2.2.2.1 j x = MM (sRL m X.2.2.2.2.1 (vp_updL f j x)) X S := by
  rw [sAL_row, mm_vv (m := sRL m X.2.2.2.2.1 f) h]
  have e0 : aL (sRL m X.2.2.2.2.1 f) X.2.2.2.2.1 = f := vu_eq _ _ _
  rw [e0]
  have e : va_up (va_up (va_up (aL m) X.2.2.2.2.1 f) X.2.2.1 S.2.1) X.2.2.2.2.1 (vp_updL f j x) = va_up (va_up (aL m) X.2.2.2.2.1 (vp_updL f j x)) X.2.2.1 S.2.1 := by
    rw [vu_sw (va_up (aL m) X.2.2.2.2.1 f) _ _ h.2.2.2.2.2.2.2.2.2.2.2.2.2.2.2.2.2, vu_vu]
  show (gT m, gN m, gI m, gL m, gP m, va_up (va_up (aI m) X.2.1 S.1) X.2.2.2.2.2 S.2.2, va_up (va_up (va_up (aL m) X.2.2.2.2.1 f) X.2.2.1 S.2.1) X.2.2.2.2.1 (vp_updL f j x), aP m, zz m, nn m) = (gT m, gN m, gI m, gL m, gP m, va_up (va_up (aI m) X.2.1 S.1) X.2.2.2.2.2 S.2.2, va_up (va_up (aL m) X.2.2.2.2.1 (vp_updL f j x)) X.2.2.1 S.2.1, aP m, zz m, nn m)
  rw [e]
theorem vu_self {α : Type} (g : Nat → α) (a : Nat) : va_up g a (g a) = g := by
  funext b
  by_cases h : b = a
  · subst h
    simp [va_up]
  · simp [va_up, h]
theorem sRI_self (m : Mem) (a : Nat) : sRI m a (aI m a) = m := by
  show (gT m, gN m, gI m, gL m, gP m, va_up (aI m) a (aI m a), aL m, aP m, zz m, nn m) = m
  rw [vu_self]
  rfl
theorem sRL_self (m : Mem) (a : Nat) : sRL m a (aL m a) = m := by
  show (gT m, gN m, gI m, gL m, gP m, aI m, va_up (aL m) a (aL m a), aP m, zz m, nn m) = m
  rw [vu_self]
  rfl
section RowsK
variable {G : GG} {d : Nat} {u : MI} {z0 n0 : Nat} {r : Option Value} {mF : Mem} {pc : Nat} {lv : List (Nat × Value)} {st : List Value} {m : Mem} {X : XX} {S : MS}
theorem e_kkst {j : Nat} {x : Int32} {f : Nat → Int32} (hX : MW m X) (hd : decode u.2.1 pc = .ok (.iastore, 1)) (hj : j < 142000) (k : EvB G d u z0 n0 r mF (pc + 1) lv st (MM (sRI m X.2.2.2.1 (upd f j x)) X S)) : EvB G d u z0 n0 r mF pc lv (.int x :: .int (nI j) :: .ref X.2.2.2.1 :: st) (MM (sRI m X.2.2.2.1 f) X S) := e_iastN _ hd hX.2.2.2.2.2.2.2.2.2.2.1 (Nat.lt_of_lt_of_eq hj hX.2.2.2.2.2.2.2.2.2.2.2.1.symm) (by show gN m _ < _; rw [hX.2.2.2.2.2.2.2.2.2.2.2.1]; decide) (mm_skk hX S f j x) k
theorem e_kkld {j : Nat} (hX : MW m X) (hd : decode u.2.1 pc = .ok (.iaload, 1)) (hj : j < 142000) (k : EvB G d u z0 n0 r mF (pc + 1) lv (.int (aI m X.2.2.2.1 j) :: st) (MM m X S)) : EvB G d u z0 n0 r mF pc lv (.int (nI j) :: .ref X.2.2.2.1 :: st) (MM m X S) := e_ialdN _ hd hX.2.2.2.2.2.2.2.2.2.2.1 (Nat.lt_of_lt_of_eq hj hX.2.2.2.2.2.2.2.2.2.2.2.1.symm) (by show gN m _ < _; rw [hX.2.2.2.2.2.2.2.2.2.2.2.1]; decide) (by rw [mm_kk hX]) k
theorem e_vvst {j : Nat} {x : Int64} {f : Nat → Int64} (hX : MW m X) (hd : decode u.2.1 pc = .ok (.lastore, 1)) (hj : j < 200) (k : EvB G d u z0 n0 r mF (pc + 1) lv st (MM (sRL m X.2.2.2.2.1 (vp_updL f j x)) X S)) : EvB G d u z0 n0 r mF pc lv (.long x :: .int (nI j) :: .ref X.2.2.2.2.1 :: st) (MM (sRL m X.2.2.2.2.1 f) X S) := e_lastN _ hd hX.2.2.2.2.2.2.2.2.2.2.2.2.1 (Nat.lt_of_lt_of_eq hj hX.2.2.2.2.2.2.2.2.2.2.2.2.2.1.symm) (by show gN m _ < _; rw [hX.2.2.2.2.2.2.2.2.2.2.2.2.2.1]; decide) (mm_svv hX S f j x) k
theorem e_vvld {j : Nat} (hX : MW m X) (hd : decode u.2.1 pc = .ok (.laload, 1)) (hj : j < 200) (k : EvB G d u z0 n0 r mF (pc + 1) lv (.long (aL m X.2.2.2.2.1 j) :: st) (MM m X S)) : EvB G d u z0 n0 r mF pc lv (.int (nI j) :: .ref X.2.2.2.2.1 :: st) (MM m X S) := e_laldN _ hd hX.2.2.2.2.2.2.2.2.2.2.2.2.1 (Nat.lt_of_lt_of_eq hj hX.2.2.2.2.2.2.2.2.2.2.2.2.2.1.symm) (by show gN m _ < _; rw [hX.2.2.2.2.2.2.2.2.2.2.2.2.2.1]; decide) (by rw [mm_vv hX]) k
end RowsK
