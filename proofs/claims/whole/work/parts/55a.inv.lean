/-! the law: what holds between two of its calls -/
abbrev uL_law : MI := (yL_law, cL_law, 4, ret)
/-- the reference, and whose each of its cells is -/
def RF (m : Mem) (o : Nat → Nat) (X : XX) (kf : KF) (vf : VF) (lf : Nat → Int32) : Prop := MW m X ∧ (aI m X.2.1 = kf ∧ aL m X.2.2.1 = vf ∧ aI m X.2.2.2.2.2 = lf) ∧ (o X.1 = 1 ∧ o X.2.1 = 2 ∧ o X.2.2.1 = 3 ∧ o X.2.2.2.1 = 4 ∧ o X.2.2.2.2.1 = 5 ∧ o X.2.2.2.2.2 = 6) ∧ (X.1 < zz m ∧ X.2.1 < zz m ∧ X.2.2.1 < zz m ∧ X.2.2.2.1 < zz m ∧ X.2.2.2.2.1 < zz m ∧ X.2.2.2.2.2 < zz m)
/-- the script -/
def SS (m : Mem) (o : Nat → Nat) (b L : Nat) (xs : Nat → Int32) : Prop := gT m b = 18 ∧ gN m b = L ∧ aI m b = xs ∧ o b = 7 ∧ b < zz m
/-- image or none -/
def IM (m : Mem) (F : Nat) (X : XX) : Prop := (gI m 124 X.1 = nI 0 ∧ gP m 103 F = none) ∨ (gI m 124 X.1 = nI 1 ∧ ∃ q, gP m 103 F = some q)
def AC0 (z0 n0 : Nat) (m : Mem) (p g r a : Nat) : Prop := nn m ≤ n0 + 300000 + p + g + r + a ∧ 16 * zz m ≤ 16 * z0 + 10000 + p + g + r + a
def INV (F : Nat) (X : XX) (b L : Nat) (xs : Nat → Int32) (z0 n0 : Nat) (m : Mem) (o : Nat → Nat) (YL : YY) (AN : Nat × Nat × Nat) (kf : KF) (vf : VF) (n s : Nat) (nf : Nat → Int64) (lf : Nat → Int32) (r a : Nat) : Prop :=
  (CW m o F YL AN kf vf n s nf ∧ SN kf vf n s ∧ HI nf s kf vf n) ∧ RF m o X kf vf lf ∧ (gI m 105 F = gI m 125 X.1 ∧ gI m 106 F = gI m 126 X.1) ∧ RP m o F r ∧ KP m o F (aI m X.2.2.2.1) (aL m X.2.2.2.2.1) a ∧ IM m F X ∧ SS m o b L xs ∧ AC0 z0 n0 m (pot YL.2.2.1) AN.2.2 r a
def IV (F : Nat) (X : XX) (b L : Nat) (xs : Nat → Int32) (z0 n0 : Nat) (m : Mem) : Prop := ∃ o YL AN kf vf n s nf lf r a, INV F X b L xs z0 n0 m o YL AN kf vf n s nf lf r a
section Uns
variable {S : Nat → Prop} {m m1 : Mem} {o o1 : Nat → Nat} {F : Nat} {X : XX} {b L : Nat} {xs : Nat → Int32} {kf : KF} {vf : VF} {lf : Nat → Int32}
theorem RF.eq (h : RF m o X kf vf lf) (fs : FS S m o m1 o1) (hS : ∀ c, 1 ≤ c → c ≤ 6 → ¬ S c) : (Eqa m m1 X.1 ∧ Eqa m m1 X.2.1 ∧ Eqa m m1 X.2.2.1 ∧ Eqa m m1 X.2.2.2.1 ∧ Eqa m m1 X.2.2.2.2.1 ∧ Eqa m m1 X.2.2.2.2.2) ∧ RF m1 o1 X kf vf lf := by
  obtain ⟨h1, ⟨k1, k2, k3⟩, ⟨c1, c2, c3, c4, c5, c6⟩, ⟨z1, z2, z3, z4, z5, z6⟩⟩ := h
  obtain ⟨p1, q1, r1, s1⟩ := fs.2.1 _ z1
  obtain ⟨p2, q2, r2, s2⟩ := fs.2.1 _ z2
  obtain ⟨p3, q3, r3, s3⟩ := fs.2.1 _ z3
  obtain ⟨p4, q4, r4, s4⟩ := fs.2.1 _ z4
  obtain ⟨p5, q5, r5, s5⟩ := fs.2.1 _ z5
  obtain ⟨p6, q6, r6, s6⟩ := fs.2.1 _ z6
  have e1 := s1 (by rw [c1]; exact hS 1 (by omega) (by omega))
  have e2 := s2 (by rw [c2]; exact hS 2 (by omega) (by omega))
  have e3 := s3 (by rw [c3]; exact hS 3 (by omega) (by omega))
  have e4 := s4 (by rw [c4]; exact hS 4 (by omega) (by omega))
  have e5 := s5 (by rw [c5]; exact hS 5 (by omega) (by omega))
  have e6 := s6 (by rw [c6]; exact hS 6 (by omega) (by omega))
  have zl := fs.1
  refine ⟨⟨e1, e2, e3, e4, e5, e6⟩, ?_, ⟨e2.2.2.2.1.trans k1, e3.2.2.2.2.1.trans k2, e6.2.2.2.1.trans k3⟩, ⟨p1.trans c1, p2.trans c2, p3.trans c3, p4.trans c4, p5.trans c5, p6.trans c6⟩, ⟨by omega, by omega, by omega, by omega, by omega, by omega⟩⟩
  unfold MW
  rw [q1, q2, r2, q3, r3, q4, r4, q5, r5, q6, r6, e1.2.2.1, e1.2.2.1, e1.2.2.1, e1.2.2.1, e1.2.2.1]
  exact h1
theorem SS.un (h : SS m o b L xs) (fs : FS S m o m1 o1) (hS : ¬ S 7) : SS m1 o1 b L xs := by
  obtain ⟨h1, h2, h3, h4, h5⟩ := h
  obtain ⟨p, q, r, s⟩ := fs.2.1 _ h5
  have e := s (by rw [h4]; exact hS)
  exact ⟨q.trans h1, r.trans h2, e.2.2.2.1.trans h3, p.trans h4, Nat.lt_of_lt_of_le h5 fs.1⟩
end Uns
theorem wf_cl {k k' : KF} {n : Nat} (h : WF k n) (e : ∀ j, j < 142000 → k' j = k j) : WF k' n := wf_congr h (fun i hi => e i (by unfold rel at hi; rcases hi with z | z | z | z | z | ⟨j, w, z1, z2, z3⟩ <;> omega))
theorem sn_cl {k k' : KF} {v v' : VF} {n s : Nat} (h : SN k v n s) (e : ∀ j, j < 142000 → k' j = k j) (ev : ∀ t, t < 200 → v' t = v t) : SN k' v' n s := by
  obtain ⟨hW, z, h0, hz, hG⟩ := h
  exact ⟨wf_cl hW e, z, (e 0 (by omega)).trans h0, hz, hG.cg2 hW (fun i hi => e i (by unfold RG at hi; omega)) (fun t ht => ev t (by have := hW.1.2; omega))⟩
theorem rl_cl {k : KF} {n j : Nat} (hn : n ≤ 200) (h : Rl 62000 k n j) : j < 142000 := by
  unfold Rl at h
  rcases h with z | z | ⟨z1, z2, z3⟩ | z | z | ⟨t, w, z1, z2, z3⟩ | ⟨t, i, z1, z2, z3, z4, z5⟩ | ⟨p, i, z1, z2, z3, z4⟩ | ⟨i, z1, z2, z3⟩ <;> omega
theorem ks_cl {m : Mem} {Y : YY} {k k' : KF} {v v' : VF} {n : Nat} (h : KS m Y 62000 k v n) (e : ∀ j, j < 142000 → k' j = k j) (ev : ∀ t, t < 200 → v' t = v t) : KS m Y 62000 k' v' n := by
  have hn := h.q.n2
  exact ⟨h.1, h.2.1.cgk (by omega) h.1 (fun j hj => e j (rl_cl hn hj)) (fun t ht => ev t (by omega)), h.2.2⟩
theorem hi_cl {nf : Nat → Int64} {k k' : KF} {v v' : VF} {n s : Nat} (h : HI nf s k v n) (e : ∀ j, j < 142000 → k' j = k j) (ev : ∀ t, t < 200 → v' t = v t) : HI nf s k' v' n := h.cg (fun j h1 _ _ => e j h1) ev
theorem PM.cl {m mm : Mem} {o : Nat → Nat} {F : Nat} {YL : YY} {AN : Nat × Nat × Nat} {k k' : KF} {v v' : VF} {st : Int32} (h : PM m o F YL AN mm k v st) (e : ∀ j, j < 142000 → k' j = k j) (ev : ∀ t, t < 200 → v' t = v t) : PM m o F YL AN mm k' v' st := by
  obtain ⟨o', YL', AN', n', s', nf', h1, h2, h3, h4⟩ := h
  exact ⟨o', YL', AN', n', s', nf', ⟨h1.1, h1.2.1, h1.2.2.1, ks_cl h1.2.2.2.1 e ev, h1.2.2.2.2.1, (e 6 (by omega)).trans h1.2.2.2.2.2⟩, sn_cl h2 e ev, hi_cl h3 e ev, h4⟩
theorem KP.cl {m : Mem} {o : Nat → Nat} {F a : Nat} {k k' : KF} {v v' : VF} (h : KP m o F k v a) (e : ∀ j, j < 142000 → k' j = k j) (ev : ∀ t, t < 200 → v' t = v t) : KP m o F k' v' a := by
  rcases h with g | ⟨YK, AK, nk, sk, nfk, ⟨g1, g2, g3, g4, g5, g6⟩, g7, g8, g9⟩
  · exact Or.inl g
  · exact Or.inr ⟨YK, AK, nk, sk, nfk, ⟨g1, g2, g3, ks_cl g4 e ev, g5, (e 6 (by omega)).trans g6⟩, sn_cl g7 e ev, hi_cl g8 e ev, g9⟩
section Step
variable {F : Nat} {X : XX} {b L : Nat} {xs : Nat → Int32} {z0 n0 : Nat} {m m1 : Mem} {o : Nat → Nat} {YL : YY} {AN : Nat × Nat × Nat} {kf kf' : KF} {vf vf' : VF} {n s : Nat} {nf : Nat → Int64} {lf lf' : Nat → Int32} {r a : Nat} {st : Int32}
def SX (q : Nat) : Prop := 1 ≤ q ∧ q ≤ 6
/-- what the reference writes, is its own -/
theorem mm_fs {o1 : Nat → Nat} {m2 : Mem} {S' : MS} (h : RF m1 o1 X kf vf lf) (hT : gT m2 = gT m1) (hN : gN m2 = gN m1) (hz : zz m2 = zz m1) (he : ∀ q, q ≠ X.1 → q ≠ X.2.1 → q ≠ X.2.2.1 → q ≠ X.2.2.2.1 → q ≠ X.2.2.2.2.1 → q ≠ X.2.2.2.2.2 → Eqa m1 m2 q) : FS SX m1 o1 m2 o1 := by
  obtain ⟨-, -, ⟨c1, c2, c3, c4, c5, c6⟩, -⟩ := h
  refine ⟨Nat.le_of_eq hz.symm, fun q hq => ⟨rfl, by rw [hT], by rw [hN], fun hs => he q (fun e => hs ?_) (fun e => hs ?_) (fun e => hs ?_) (fun e => hs ?_) (fun e => hs ?_) (fun e => hs ?_)⟩, fun q h1 h2 => absurd h1 (by omega)⟩ <;> (rw [e]; unfold SX; omega)
theorem MM.eqa {m : Mem} {X : XX} {S' : MS} {q : Nat} (h1 : q ≠ X.2.1) (h2 : q ≠ X.2.2.1) (h3 : q ≠ X.2.2.2.2.2) : Eqa m (MM m X S') q := ((eqa_sRI h1).tr (eqa_sRL h2)).tr (eqa_sRI h3)
/-- behind the class's part of a call -/
theorem inv_pm (hI : INV F X b L xs z0 n0 m o YL AN kf vf n s nf lf r a) (hP : PM m o F YL AN m1 kf' vf' st) : ∃ o1 Y1 A1 n1 s1 nf1, (CW m1 o1 F Y1 A1 kf' vf' n1 s1 nf1 ∧ SN kf' vf' n1 s1 ∧ HI nf1 s1 kf' vf' n1) ∧ RF m1 o1 X kf vf lf ∧ (gI m1 105 F = st ∧ gI m1 106 F = gI m1 126 X.1 ∧ gI m1 125 X.1 = gI m 125 X.1) ∧ RP m1 o1 F r ∧ KP m1 o1 F (aI m1 X.2.2.2.1) (aL m1 X.2.2.2.2.1) a ∧ IM m1 F X ∧ SS m1 o1 b L xs ∧ AC0 z0 n0 m1 (pot Y1.2.2.1) A1.2.2 r a ∧ (aI m1 X.2.2.2.1 = aI m X.2.2.2.1 ∧ aL m1 X.2.2.2.2.1 = aL m X.2.2.2.2.1 ∧ gI m1 124 X.1 = gI m 124 X.1) := by
  obtain ⟨o1, Y1, A1, n1, s1, nf1, c1, c2, c3, ⟨f1, f2, f3, f4, f5⟩, c5⟩ := hP
  obtain ⟨-, h2, ⟨h3, h3'⟩, h4, h5, h6, h7, ⟨h8, h9⟩⟩ := hI
  obtain ⟨⟨e1, e2, e3, e4, e5, e6⟩, hR⟩ := h2.eq f1 (fun c h1 h2 => by unfold SC Ow; omega)
  refine ⟨o1, Y1, A1, n1, s1, nf1, ⟨c1, c2, c3⟩, hR, ⟨c5, ?_, e1.1 125⟩, h4.un f1 (fun c hc => by unfold SC; unfold Ow at *; omega) (f2 102), ?_, ?_, h7.un f1 (by unfold SC Ow; omega), ⟨by omega, by omega⟩, e4.2.2.2.1, e5.2.2.2.2.1, e1.1 124⟩
  · rw [f3, e1.1 126]
    exact h3'
  · rw [e4.2.2.2.1, e5.2.2.2.2.1]
    exact h5.un f1 (fun c hc => by unfold SC; unfold Ow at *; omega) (f2 103) (f2 104)
  · unfold IM
    rw [e1.1 124, f2 103]
    exact h6
/-- behind the reference's part: m2 -/
theorem inv_rf {o1 : Nat → Nat} {Y1 : YY} {A1 : Nat × Nat × Nat} {m2 : Mem} {nn1 ss : Nat} {nf1 : Nat → Int64} {kr : KF} {vr : VF} {lr : Nat → Int32} (hC : CW m1 o1 F Y1 A1 kf' vf' nn1 ss nf1 ∧ SN kf' vf' nn1 ss ∧ HI nf1 ss kf' vf' nn1) (hR : RF m1 o1 X kr vr lr) (hF : RP m1 o1 F r) (hK : KP m1 o1 F (aI m2 X.2.2.2.1) (aL m2 X.2.2.2.2.1) a) (hS : SS m1 o1 b L xs) (hA : AC0 z0 n0 m1 (pot Y1.2.2.1) A1.2.2 r a)
    (fs : FS SX m1 o1 m2 o1) (hn : nn m2 = nn m1) (hz : zz m2 = zz m1) (hW : MW m2 X) (k1 : aI m2 X.2.1 = kf') (k2 : aL m2 X.2.2.1 = vf') (k3 : aI m2 X.2.2.2.2.2 = lf') (h5 : gI m1 105 F = gI m2 125 X.1) (h6 : gI m1 106 F = gI m2 126 X.1) (hi : (gI m2 124 X.1 = nI 0 ∧ gP m1 103 F = none) ∨ (gI m2 124 X.1 = nI 1 ∧ ∃ q, gP m1 103 F = some q)) : IV F X b L xs z0 n0 m2 := by
  have e := (fs.2.1 F hC.1.1.2.2).2.2.2 (by rw [hC.1.1.2.1]; unfold SX; omega)
  obtain ⟨-, -, c, z⟩ := hR
  refine ⟨o1, rY Y1 o1, A1, kf', vf', nn1, ss, nf1, lf', r, a, ⟨hC.1.un fs (fun c h1 h2 => by unfold SC at h1; unfold SX; unfold Ow at *; omega) (fun f _ => e.2.2.1 f), hC.2⟩, ⟨hW, ⟨k1, k2, k3⟩, c, by rw [hz]; exact z⟩, ⟨(e.1 105).trans h5, (e.1 106).trans h6⟩, hF.un fs (fun c hc => by unfold SX; unfold Ow at *; omega) (e.2.2.1 102), hK.un fs (fun c hc => by unfold SX; unfold Ow at *; omega) (e.2.2.1 103) (e.2.2.1 104), ?_, hS.un fs (by unfold SX; omega), ?_⟩
  · unfold IM
    rw [e.2.2.1 103]
    exact hi
  · unfold AC0
    rw [hn, hz]
    exact hA
/-- a call whose reference writes k, v, isLent and its status -/
theorem inv_st (hI : INV F X b L xs z0 n0 m o YL AN kf vf n s nf lf r a) (hP : PM m o F YL AN m1 kf' vf' st) : IV F X b L xs z0 n0 (MM (sI m1 125 X.1 st) X (kf', vf', lf')) := by
  obtain ⟨o1, Y1, A1, n1, s1, nf1, hC, hR, ⟨i5, i6, i7⟩, hF, hK, hM, hS, hA, -⟩ := inv_pm hI hP
  have hW : MW (sI m1 125 X.1 st) X := hR.1
  have hW2 : MW (MM (sI m1 125 X.1 st) X (kf', vf', lf')) X := hW
  refine inv_rf hC hR hF ?_ hS hA (mm_fs (S' := (kf', vf', lf')) hR rfl rfl rfl (fun q h1 h2 h3 _ _ h6 => (eqa_sI h1).tr (MM.eqa h2 h3 h6))) rfl rfl hW2 (mm_k hW _) (mm_v _ _ _) (mm_l _ _ _) ?_ ?_ ?_
  · rw [mm_kk hW, mm_vv hW]
    exact hK
  · rw [i5]
    exact (u2_eq (gI m1) 125 X.1 st).symm
  · rw [i6]
    exact (gI_nf (m := m1) (f := 125) (a := X.1) (x := st) (by omega)).symm
  · have e : gI (MM (sI m1 125 X.1 st) X (kf', vf', lf')) 124 X.1 = gI m1 124 X.1 := gI_nf (m := m1) (f := 125) (a := X.1) (f' := 124) (a' := X.1) (x := st) (by omega)
    rw [e]
    exact hM
/-- a question -/
theorem inv_q (hI : INV F X b L xs z0 n0 m o YL AN kf vf n s nf lf r a) (hP : PM m o F YL AN m1 kf vf (gI m 105 F)) : IV F X b L xs z0 n0 m1 := by
  have h5 := hI.2.2.1.1
  obtain ⟨o1, Y1, A1, n1, s1, nf1, hC, hR, ⟨i5, i6, i7⟩, hF, hK, hM, hS, hA, -⟩ := inv_pm hI hP
  exact ⟨o1, Y1, A1, kf, vf, n1, s1, nf1, lf, r, a, hC, hR, ⟨by rw [i5, i7]; exact h5, i6⟩, hF, hK, hM, hS, hA⟩
end Step
