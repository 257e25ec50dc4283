/-! returns; the reference's memory: one object X.1 with its rows k, v, kept, keptV, isLent; MM: the memory m with k, v, isLent holding S -/
section Rows7
variable {G : GG} {d : Nat} {u : MI} {z0 n0 : Nat} {r : Option Value} {mF : Mem} {pc : Nat} {lv : List (Nat × Value)} {m : Mem}
theorem e_retV (hd : decode u.2.1 pc = .ok (.return_, 1)) (hr : u.2.2.2 = none) (h : r = none) (hm : m = mF := by rfl) : EvB G d u z0 n0 r mF pc lv [] m := by
  subst hm
  exact e_ret hd (Or.inl ⟨rfl, hr, h, rfl⟩)
theorem e_retI {v : Int32} {ty : FieldType} (hd : decode u.2.1 pc = .ok (.ireturn, 1)) (hr : u.2.2.2 = some ty) (hn : narrow ty (.int v) = .int v) (h : r = some (.int v)) (hm : m = mF := by rfl) : EvB G d u z0 n0 r mF pc lv [.int v] m := by
  subst hm
  exact e_ret hd (Or.inr (Or.inl ⟨v, ty, rfl, hr, hn, h, rfl⟩))
theorem e_retL {v : Int64} (hd : decode u.2.1 pc = .ok (.lreturn, 1)) (hr : u.2.2.2 = some .long) (h : r = some (.long v)) (hm : m = mF := by rfl) : EvB G d u z0 n0 r mF pc lv [.long v] m := by
  subst hm
  exact e_ret hd (Or.inr (Or.inr (Or.inl ⟨v, rfl, hr, h, rfl⟩)))
theorem e_retA {v : Option Nat} {w : Value} {ty : FieldType} (hd : decode u.2.1 pc = .ok (.areturn, 1)) (hr : u.2.2.2 = some ty) (ht : (∃ n, ty = .object n) ∨ ∃ t, ty = .array t) (h : r = some (va_rf v)) (hw : w = va_rf v) (hm : m = mF := by rfl) : EvB G d u z0 n0 r mF pc lv [w] m := by
  subst hm; subst hw
  exact e_ret hd (Or.inr (Or.inr (Or.inr ⟨v, ty, rfl, hr, ht, h, rfl⟩)))
end Rows7
/-- X = (object, k, v, kept, keptV, isLent) -/
abbrev XX : Type := Nat × Nat × Nat × Nat × Nat × Nat
abbrev MS : Type := (Nat → Int32) × (Nat → Int64) × (Nat → Int32)
def MW (m : Mem) (X : XX) : Prop := gT m X.1 = 7 ∧ gP m 120 X.1 = some X.2.1 ∧ gP m 121 X.1 = some X.2.2.1 ∧ gP m 122 X.1 = some X.2.2.2.1 ∧ gP m 123 X.1 = some X.2.2.2.2.1 ∧ gP m 127 X.1 = some X.2.2.2.2.2 ∧ gT m X.2.1 = 12 ∧ gN m X.2.1 = 142000 ∧ gT m X.2.2.1 = 13 ∧ gN m X.2.2.1 = 200 ∧ gT m X.2.2.2.1 = 12 ∧ gN m X.2.2.2.1 = 142000 ∧ gT m X.2.2.2.2.1 = 13 ∧ gN m X.2.2.2.2.1 = 200 ∧ gT m X.2.2.2.2.2 = 15 ∧ gN m X.2.2.2.2.2 = 200 ∧ X.2.1 ≠ X.2.2.2.1 ∧ X.2.2.1 ≠ X.2.2.2.2.1
def MM (m : Mem) (X : XX) (S : MS) : Mem := sRI (sRL (sRI m X.2.1 S.1) X.2.2.1 S.2.1) X.2.2.2.2.2 S.2.2
theorem MW.kl {m : Mem} {X : XX} (h : MW m X) : X.2.1 ≠ X.2.2.2.2.2 := fun e => by
  have h1 := h.2.2.2.2.2.2.1
  have h2 := h.2.2.2.2.2.2.2.2.2.2.2.2.2.2.1
  rw [e, h2] at h1
  cases h1
theorem mm_k {m : Mem} {X : XX} (h : MW m X) (S : MS) : aI (MM m X S) X.2.1 = S.1 := by
  show va_up (va_up (aI m) X.2.1 S.1) X.2.2.2.2.2 S.2.2 X.2.1 = S.1
  rw [vu_ne _ _ h.kl, vu_eq]
theorem mm_v (m : Mem) (X : XX) (S : MS) : aL (MM m X S) X.2.2.1 = S.2.1 := by
  show va_up (aL m) X.2.2.1 S.2.1 X.2.2.1 = S.2.1
  rw [vu_eq]
theorem mm_l (m : Mem) (X : XX) (S : MS) : aI (MM m X S) X.2.2.2.2.2 = S.2.2 := by
  show va_up (va_up (aI m) X.2.1 S.1) X.2.2.2.2.2 S.2.2 X.2.2.2.2.2 = S.2.2
  rw [vu_eq]
theorem vu_vu {α : Type} (g : Nat → α) (a : Nat) (x y : α) : va_up (va_up g a x) a y = va_up g a y := by
  funext b
  by_cases h : b = a <;> simp [va_up, h]
theorem vu_sw {α : Type} (g : Nat → α) {a b : Nat} (x y : α) (h : a ≠ b) : va_up (va_up g a x) b y = va_up (va_up g b y) a x := by
  funext c
  by_cases h1 : c = a
  · subst h1
    simp [va_up, h]
  · by_cases h2 : c = b
    · subst h2
      simp [va_up, h1]
    · simp [va_up, h1, h2]
theorem mm_sk {m : Mem} {X : XX} (h : MW m X) (S : MS) (j : Nat) (x : Int32) : sAI (MM m X S) X.2.1 j x = MM m X (upd S.1 j x, S.2.1, S.2.2) := by
  rw [sAI_row, mm_k h]
  have e : va_up (va_up (va_up (aI m) X.2.1 S.1) X.2.2.2.2.2 S.2.2) X.2.1 (upd S.1 j x) = va_up (va_up (aI m) X.2.1 (upd S.1 j x)) X.2.2.2.2.2 S.2.2 := by
    rw [vu_sw _ _ _ (Ne.symm h.kl), vu_vu]
  show (gT m, gN m, gI m, gL m, gP m, va_up (va_up (va_up (aI m) X.2.1 S.1) X.2.2.2.2.2 S.2.2) X.2.1 (upd S.1 j x), va_up (aL m) X.2.2.1 S.2.1, aP m, zz m, nn m) = (gT m, gN m, gI m, gL m, gP m, va_up (va_up (aI m) X.2.1 (upd S.1 j x)) X.2.2.2.2.2 S.2.2, va_up (aL m) X.2.2.1 S.2.1, aP m, zz m, nn m)
  rw [e]
theorem mm_sl (m : Mem) (X : XX) (S : MS) (j : Nat) (x : Int32) : sAI (MM m X S) X.2.2.2.2.2 j x = MM m X (S.1, S.2.1, upd S.2.2 j x) := by
  rw [sAI_row, mm_l]
  show (gT m, gN m, gI m, gL m, gP m, va_up (va_up (va_up (aI m) X.2.1 S.1) X.2.2.2.2.2 S.2.2) X.2.2.2.2.2 (upd S.2.2 j x), va_up (aL m) X.2.2.1 S.2.1, aP m, zz m, nn m) = (gT m, gN m, gI m, gL m, gP m, va_up (va_up (aI m) X.2.1 S.1) X.2.2.2.2.2 (upd S.2.2 j x), va_up (aL m) X.2.2.1 S.2.1, aP m, zz m, nn m)
  rw [vu_vu]
theorem mm_sv (m : Mem) (X : XX) (S : MS) (j : Nat) (x : Int64) : sAL (MM m X S) X.2.2.1 j x = MM m X (S.1, vp_updL S.2.1 j x, S.2.2) := by
  rw [sAL_row, mm_v]
  show (gT m, gN m, gI m, gL m, gP m, va_up (va_up (aI m) X.2.1 S.1) X.2.2.2.2.2 S.2.2, va_up (va_up (aL m) X.2.2.1 S.2.1) X.2.2.1 (vp_updL S.2.1 j x), aP m, zz m, nn m) = (gT m, gN m, gI m, gL m, gP m, va_up (va_up (aI m) X.2.1 S.1) X.2.2.2.2.2 S.2.2, va_up (aL m) X.2.2.1 (vp_updL S.2.1 j x), aP m, zz m, nn m)
  rw [vu_vu]
section Rows8
variable {G : GG} {d : Nat} {u : MI} {z0 n0 : Nat} {r : Option Value} {mF : Mem} {pc : Nat} {lv : List (Nat × Value)} {st : List Value} {m : Mem} {X : XX} {kf : Nat → Int32} {vf : Nat → Int64} {lf : Nat → Int32}
theorem e_mk {i : Nat} (hX : MW m X) (hd : decode u.2.1 pc = .ok (.getfield i, 3)) (hf : FL u.1.cls i 6 0) (k : EvB G d u z0 n0 r mF (pc + 3) lv (.ref X.2.1 :: st) (MM m X (kf, vf, lf))) : EvB G d u z0 n0 r mF pc lv (.ref X.1 :: st) (MM m X (kf, vf, lf)) := e_getP (some X.2.1) hd hf rfl hX.1 hX.2.1 k
theorem e_mv {i : Nat} (hX : MW m X) (hd : decode u.2.1 pc = .ok (.getfield i, 3)) (hf : FL u.1.cls i 6 1) (k : EvB G d u z0 n0 r mF (pc + 3) lv (.ref X.2.2.1 :: st) (MM m X (kf, vf, lf))) : EvB G d u z0 n0 r mF pc lv (.ref X.1 :: st) (MM m X (kf, vf, lf)) := e_getP (some X.2.2.1) hd hf rfl hX.1 hX.2.2.1 k
theorem e_ml {i : Nat} (hX : MW m X) (hd : decode u.2.1 pc = .ok (.getfield i, 3)) (hf : FL u.1.cls i 6 7) (k : EvB G d u z0 n0 r mF (pc + 3) lv (.ref X.2.2.2.2.2 :: st) (MM m X (kf, vf, lf))) : EvB G d u z0 n0 r mF pc lv (.ref X.1 :: st) (MM m X (kf, vf, lf)) := e_getP (some X.2.2.2.2.2) hd hf rfl hX.1 hX.2.2.2.2.2.1 k
theorem mm_nk (hX : MW m X) (S : MS) : gN (MM m X S) X.2.1 = 142000 := hX.2.2.2.2.2.2.2.1
theorem mm_nv (hX : MW m X) (S : MS) : gN (MM m X S) X.2.2.1 = 200 := hX.2.2.2.2.2.2.2.2.2.1
theorem mm_nl (hX : MW m X) (S : MS) : gN (MM m X S) X.2.2.2.2.2 = 200 := hX.2.2.2.2.2.2.2.2.2.2.2.2.2.2.2.1
theorem e_kld {j : Nat} (hX : MW m X) (hd : decode u.2.1 pc = .ok (.iaload, 1)) (hj : j < 142000) (k : EvB G d u z0 n0 r mF (pc + 1) lv (.int (kf j) :: st) (MM m X (kf, vf, lf))) : EvB G d u z0 n0 r mF pc lv (.int (nI j) :: .ref X.2.1 :: st) (MM m X (kf, vf, lf)) := e_ialdN (kf j) hd hX.2.2.2.2.2.2.1 (by rw [mm_nk hX]; exact hj) (by rw [mm_nk hX]; decide) (by rw [mm_k hX]) k
theorem e_kst {j : Nat} {x : Int32} (hX : MW m X) (hd : decode u.2.1 pc = .ok (.iastore, 1)) (hj : j < 142000) (k : EvB G d u z0 n0 r mF (pc + 1) lv st (MM m X (upd kf j x, vf, lf))) : EvB G d u z0 n0 r mF pc lv (.int x :: .int (nI j) :: .ref X.2.1 :: st) (MM m X (kf, vf, lf)) := e_iastN _ hd hX.2.2.2.2.2.2.1 (by rw [mm_nk hX]; exact hj) (by rw [mm_nk hX]; decide) (mm_sk hX _ j x) k
theorem e_vld {j : Nat} (hX : MW m X) (hd : decode u.2.1 pc = .ok (.laload, 1)) (hj : j < 200) (k : EvB G d u z0 n0 r mF (pc + 1) lv (.long (vf j) :: st) (MM m X (kf, vf, lf))) : EvB G d u z0 n0 r mF pc lv (.int (nI j) :: .ref X.2.2.1 :: st) (MM m X (kf, vf, lf)) := e_laldN (vf j) hd hX.2.2.2.2.2.2.2.2.1 (by rw [mm_nv hX]; exact hj) (by rw [mm_nv hX]; decide) (by rw [mm_v]) k
theorem e_vst {j : Nat} {x : Int64} (hX : MW m X) (hd : decode u.2.1 pc = .ok (.lastore, 1)) (hj : j < 200) (k : EvB G d u z0 n0 r mF (pc + 1) lv st (MM m X (kf, vp_updL vf j x, lf))) : EvB G d u z0 n0 r mF pc lv (.long x :: .int (nI j) :: .ref X.2.2.1 :: st) (MM m X (kf, vf, lf)) := e_lastN _ hd hX.2.2.2.2.2.2.2.2.1 (by rw [mm_nv hX]; exact hj) (by rw [mm_nv hX]; decide) (mm_sv _ _ _ j x) k
theorem e_lld {j : Nat} (hX : MW m X) (hd : decode u.2.1 pc = .ok (.baload, 1)) (hj : j < 200) (k : EvB G d u z0 n0 r mF (pc + 1) lv (.int (lf j) :: st) (MM m X (kf, vf, lf))) : EvB G d u z0 n0 r mF pc lv (.int (nI j) :: .ref X.2.2.2.2.2 :: st) (MM m X (kf, vf, lf)) := e_zaldN (lf j) hd hX.2.2.2.2.2.2.2.2.2.2.2.2.2.2.1 (by rw [mm_nl hX]; exact hj) (by rw [mm_nl hX]; decide) (by rw [mm_l]) k
theorem e_lst {j : Nat} {x : Int32} (hX : MW m X) (hd : decode u.2.1 pc = .ok (.bastore, 1)) (hx : narrow .boolean (.int x) = .int x) (hj : j < 200) (k : EvB G d u z0 n0 r mF (pc + 1) lv st (MM m X (kf, vf, upd lf j x))) : EvB G d u z0 n0 r mF pc lv (.int x :: .int (nI j) :: .ref X.2.2.2.2.2 :: st) (MM m X (kf, vf, lf)) := e_zastN _ hd hX.2.2.2.2.2.2.2.2.2.2.2.2.2.2.1 (by rw [mm_nl hX]; exact hj) (by rw [mm_nl hX]; decide) hx (mm_sl _ _ _ j x) k
end Rows8
