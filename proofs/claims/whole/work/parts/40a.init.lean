/-! new cells and the others -/
theorem nw_T {m : Mem} {t n a : Nat} (h : a ≠ zz m) : gT (nw m t n) a = gT m a := by simp [nw, gT, va_up, h]
theorem nw_N {m : Mem} {t n a : Nat} (h : a ≠ zz m) : gN (nw m t n) a = gN m a := by simp [nw, gN, va_up, h]
theorem nw_P {m : Mem} {t n a : Nat} (f : Nat) (h : a ≠ zz m) : gP (nw m t n) f a = gP m f a := by simp [nw, gP, z2, h]
theorem nw_I {m : Mem} {t n a : Nat} (f : Nat) (h : a ≠ zz m) : gI (nw m t n) f a = gI m f a := by simp [nw, gI, z2, h]
theorem nw_L {m : Mem} {t n a : Nat} (f : Nat) (h : a ≠ zz m) : gL (nw m t n) f a = gL m f a := by simp [nw, gL, z2, h]
theorem nw_aI {m : Mem} {t n a : Nat} (h : a ≠ zz m) : aI (nw m t n) a = aI m a := by funext i; simp [nw, aI, zr, h]
theorem nw_aL {m : Mem} {t n a : Nat} (h : a ≠ zz m) : aL (nw m t n) a = aL m a := by funext i; simp [nw, aL, zr, h]
theorem nw_aP {m : Mem} {t n a : Nat} (h : a ≠ zz m) : aP (nw m t n) a = aP m a := by funext i; simp [nw, aP, zr, h]
theorem nw_aI0 (m : Mem) (t n : Nat) : aI (nw m t n) (zz m) = fun _ => 0 := by funext i; simp [nw, aI, zr]
theorem nw_aL0 (m : Mem) (t n : Nat) : aL (nw m t n) (zz m) = fun _ => 0 := by funext i; simp [nw, aL, zr]
theorem nw_aP0 (m : Mem) (t n : Nat) : aP (nw m t n) (zz m) = fun _ => none := by funext i; simp [nw, aP, zr]
theorem nw_z (m : Mem) (t n : Nat) : zz (nw m t n) = zz m + 1 := rfl
theorem nw_n (m : Mem) (t n : Nat) : nn (nw m t n) = nn m + n := rfl
theorem sP_eq (m : Mem) (f a : Nat) (x : Option Nat) : gP (sP m f a x) f a = x := u2_eq _ _ _ _
theorem mm_self {m : Mem} {X : XX} : MM m X (aI m X.2.1, aL m X.2.2.1, aI m X.2.2.2.2.2) = m := by
  unfold MM
  dsimp only
  rw [sRI_self, sRL_self, sRI_self]
/-- readers over writers, for any memory -/
theorem sI_z (m : Mem) (f a : Nat) (x : Int32) : zz (sI m f a x) = zz m := rfl
theorem sI_n (m : Mem) (f a : Nat) (x : Int32) : nn (sI m f a x) = nn m := rfl
theorem sI_T (m : Mem) (f a : Nat) (x : Int32) : gT (sI m f a x) = gT m := rfl
theorem sI_N (m : Mem) (f a : Nat) (x : Int32) : gN (sI m f a x) = gN m := rfl
theorem sI_P (m : Mem) (f a : Nat) (x : Int32) : gP (sI m f a x) = gP m := rfl
theorem sI_L (m : Mem) (f a : Nat) (x : Int32) : gL (sI m f a x) = gL m := rfl
theorem sI_aI (m : Mem) (f a : Nat) (x : Int32) : aI (sI m f a x) = aI m := rfl
theorem sI_aL (m : Mem) (f a : Nat) (x : Int32) : aL (sI m f a x) = aL m := rfl
theorem sI_aP (m : Mem) (f a : Nat) (x : Int32) : aP (sI m f a x) = aP m := rfl
/-- a new cell of kind t, laid into field f of object M -/
def s5 (m : Mem) (t n f M : Nat) : Mem := sP (nw m t n) f M (some (zz m))
section S5
variable (m : Mem) (t n f M : Nat) {a g : Nat}
theorem s5_z : zz (s5 m t n f M) = zz m + 1 := rfl
theorem s5_n : nn (s5 m t n f M) = nn m + n := rfl
theorem s5_T (h : a < zz m) : gT (s5 m t n f M) a = gT m a := nw_T (m := m) (t := t) (n := n) (by omega)
theorem s5_T0 : gT (s5 m t n f M) (zz m) = t := nw_gT m t n
theorem s5_N (h : a < zz m) : gN (s5 m t n f M) a = gN m a := nw_N (m := m) (t := t) (n := n) (by omega)
theorem s5_N0 : gN (s5 m t n f M) (zz m) = n := nw_gN m t n
theorem s5_P (hg : g ≠ f ∨ a ≠ M) (h : a < zz m) : gP (s5 m t n f M) g a = gP m g a := by
  show u2 (gP (nw m t n)) f M (some (zz m)) g a = gP m g a
  rw [← nw_P (m := m) (t := t) (n := n) g (show a ≠ zz m by omega)]
  rcases hg with z | z
  · exact u2_nf _ _ z
  · exact u2_na _ _ z
theorem s5_P0 : gP (s5 m t n f M) f M = some (zz m) := u2_eq _ _ _ _
theorem s5_I (h : a < zz m) : gI (s5 m t n f M) g a = gI m g a := nw_I (m := m) (t := t) (n := n) g (by omega)
theorem s5_L (h : a < zz m) : gL (s5 m t n f M) g a = gL m g a := nw_L (m := m) (t := t) (n := n) g (by omega)
theorem s5_aI (h : a < zz m) : aI (s5 m t n f M) a = aI m a := nw_aI (m := m) (t := t) (n := n) (by omega)
theorem s5_aL (h : a < zz m) : aL (s5 m t n f M) a = aL m a := nw_aL (m := m) (t := t) (n := n) (by omega)
theorem s5_aP (h : a < zz m) : aP (s5 m t n f M) a = aP m a := nw_aP (m := m) (t := t) (n := n) (by omega)
theorem s5_aI0 : aI (s5 m t n f M) (zz m) = fun _ => 0 := nw_aI0 m t n
theorem s5_aL0 : aL (s5 m t n f M) (zz m) = fun _ => 0 := nw_aL0 m t n
/-- the new cell, its address by number -/
theorem s5_T1 {z : Nat} (h : z = zz m) : gT (s5 m t n f M) z = t := h ▸ s5_T0 m t n f M
theorem s5_N1 {z : Nat} (h : z = zz m) : gN (s5 m t n f M) z = n := h ▸ s5_N0 m t n f M
theorem s5_P1 {z : Nat} (h : z = zz m) : gP (s5 m t n f M) f M = some z := h ▸ s5_P0 m t n f M
theorem s5_aI1 {z : Nat} (h : z = zz m) : aI (s5 m t n f M) z = fun _ => 0 := h ▸ s5_aI0 m t n f M
theorem s5_aL1 {z : Nat} (h : z = zz m) : aL (s5 m t n f M) z = fun _ => 0 := h ▸ s5_aL0 m t n f M
end S5
/-- the reference's memory behind its allocations; N = 142000 -/
def inM (m : Mem) (N M : Nat) : Mem := s5 (sI (s5 (s5 (s5 (s5 m 12 N 120 M) 13 200 121 M) 12 N 122 M) 13 200 123 M) 126 M (-1)) 15 200 127 M
def inX (m : Mem) (M : Nat) : XX := (M, zz m, zz m + 1, zz m + 2, zz m + 3, zz m + 4)
def inK : KF := lp (fun p k => upd k (340 + p) (-1)) 32 (lp (fun l k => upd k (240 + l) (-2)) 100 (c4 (upd (fun _ => 0) 2 (nI 1))))
section IN
variable {m : Mem} {N M : Nat}
theorem in_T {a : Nat} (h : a < zz m) : gT (inM m N M) a = gT m a := by
  unfold inM
  rw [s5_T, sI_T, s5_T, s5_T, s5_T, s5_T]
  all_goals first | exact h | (simp only [sI_z, s5_z]; omega)
theorem in_P {g a : Nat} (h : a < zz m) (ha : a ≠ M) : gP (inM m N M) g a = gP m g a := by
  unfold inM
  rw [s5_P, sI_P, s5_P, s5_P, s5_P, s5_P]
  all_goals first | exact Or.inr ha | exact h | (simp only [sI_z, s5_z]; omega)
theorem in_W (h : gT m M = 7) (hM : M < zz m) (hN : N = 142000) : MW (inM m N M) (inX m M) := by
  have e1 : gP (inM m N M) 120 M = some (zz m) := by
    unfold inM
    rw [s5_P, sI_P, s5_P, s5_P, s5_P, s5_P0]
    all_goals first | exact Or.inl (by decide) | (simp only [sI_z, s5_z]; omega)
  have e2 : gP (inM m N M) 121 M = some (zz m + 1) := by
    unfold inM
    rw [s5_P, sI_P, s5_P, s5_P, s5_P1 (z := zz m + 1)]
    all_goals first | exact Or.inl (by decide) | (simp only [sI_z, s5_z]; done) | (simp only [sI_z, s5_z]; omega)
  have e3 : gP (inM m N M) 122 M = some (zz m + 2) := by
    unfold inM
    rw [s5_P, sI_P, s5_P, s5_P1 (z := zz m + 2)]
    all_goals first | exact Or.inl (by decide) | (simp only [sI_z, s5_z]; done) | (simp only [sI_z, s5_z]; omega)
  have e4 : gP (inM m N M) 123 M = some (zz m + 3) := by
    unfold inM
    rw [s5_P, sI_P, s5_P1 (z := zz m + 3)]
    all_goals first | exact Or.inl (by decide) | (simp only [sI_z, s5_z]; done) | (simp only [sI_z, s5_z]; omega)
  have e5 : gP (inM m N M) 127 M = some (zz m + 4) := by
    unfold inM
    rw [s5_P1 (z := zz m + 4)]
    all_goals first | (simp only [sI_z, s5_z]; done) | (simp only [sI_z, s5_z]; omega)
  have t0 : gT (inM m N M) (zz m) = 12 := by
    unfold inM
    rw [s5_T, sI_T, s5_T, s5_T, s5_T, s5_T0]
    all_goals (simp only [sI_z, s5_z]; omega)
  have t1 : gT (inM m N M) (zz m + 1) = 13 := by
    unfold inM
    rw [s5_T, sI_T, s5_T, s5_T, s5_T1]
    all_goals first | (simp only [sI_z, s5_z]; done) | (simp only [sI_z, s5_z]; omega)
  have t2 : gT (inM m N M) (zz m + 2) = 12 := by
    unfold inM
    rw [s5_T, sI_T, s5_T, s5_T1]
    all_goals first | (simp only [sI_z, s5_z]; done) | (simp only [sI_z, s5_z]; omega)
  have t3 : gT (inM m N M) (zz m + 3) = 13 := by
    unfold inM
    rw [s5_T, sI_T, s5_T1]
    all_goals first | (simp only [sI_z, s5_z]; done) | (simp only [sI_z, s5_z]; omega)
  have t4 : gT (inM m N M) (zz m + 4) = 15 := by
    unfold inM
    rw [s5_T1]
    all_goals first | (simp only [sI_z, s5_z]; done) | (simp only [sI_z, s5_z]; omega)
  have n0 : gN (inM m N M) (zz m) = 142000 := by
    unfold inM
    rw [s5_N, sI_N, s5_N, s5_N, s5_N, s5_N0, hN]
    all_goals (simp only [sI_z, s5_z]; omega)
  have n1 : gN (inM m N M) (zz m + 1) = 200 := by
    unfold inM
    rw [s5_N, sI_N, s5_N, s5_N, s5_N1]
    all_goals first | (simp only [sI_z, s5_z]; done) | (simp only [sI_z, s5_z]; omega)
  have n2 : gN (inM m N M) (zz m + 2) = 142000 := by
    unfold inM
    rw [s5_N, sI_N, s5_N, s5_N1, hN]
    all_goals first | (simp only [sI_z, s5_z]; done) | (simp only [sI_z, s5_z]; omega)
  have n3 : gN (inM m N M) (zz m + 3) = 200 := by
    unfold inM
    rw [s5_N, sI_N, s5_N1]
    all_goals first | (simp only [sI_z, s5_z]; done) | (simp only [sI_z, s5_z]; omega)
  have n4 : gN (inM m N M) (zz m + 4) = 200 := by
    unfold inM
    rw [s5_N1]
    all_goals first | (simp only [sI_z, s5_z]; done) | (simp only [sI_z, s5_z]; omega)
  have t : gT (inM m N M) M = 7 := (in_T hM).trans h
  generalize inM m N M = mm at *
  exact ⟨t, e1, e2, e3, e4, e5, t0, n0, t1, n1, t2, n2, t3, n3, t4, n4, show zz m ≠ zz m + 2 by omega, show zz m + 1 ≠ zz m + 3 by omega⟩
theorem in_mm : inM m N M = MM (inM m N M) (inX m M) ((fun _ => 0), (fun _ => 0), (fun _ => 0)) := by
  have h := mm_self (m := inM m N M) (X := inX m M)
  have r1 : aI (inM m N M) (zz m) = fun _ => 0 := by
    unfold inM
    rw [s5_aI, sI_aI, s5_aI, s5_aI, s5_aI, s5_aI0]
    all_goals (simp only [sI_z, s5_z]; omega)
  have r2 : aL (inM m N M) (zz m + 1) = fun _ => 0 := by
    unfold inM
    rw [s5_aL, sI_aL, s5_aL, s5_aL, s5_aL1]
    all_goals first | (simp only [sI_z, s5_z]; done) | (simp only [sI_z, s5_z]; omega)
  have r3 : aI (inM m N M) (zz m + 4) = fun _ => 0 := by
    unfold inM
    rw [s5_aI1]
    all_goals first | (simp only [sI_z, s5_z]; done) | (simp only [sI_z, s5_z]; omega)
  generalize inM m N M = mm at *
  have e : (aI mm (inX m M).2.1, aL mm (inX m M).2.2.1, aI mm (inX m M).2.2.2.2.2) = (((fun _ => 0), (fun _ => 0), (fun _ => 0)) : MS) := by
    show (aI mm (zz m), aL mm (zz m + 1), aI mm (zz m + 4)) = _
    rw [r1, r2, r3]
  rw [e] at h
  exact h.symm
end IN
