/-! what the notes tell of a state; the class's world -/
/-- the same but for the rows that are kept, the number of notes, and what lies beyond -/
def AG (k k' : KF) : Prop := ∀ j, j < 142000 → j ≠ 6 → ¬ (62000 ≤ j ∧ j < 102000) → k' j = k j
def AV (v v' : VF) : Prop := ∀ t, t < 200 → v' t = v t
theorem AG.rf (k : KF) : AG k k := fun _ _ _ _ => rfl
theorem AV.rf (v : VF) : AV v v := fun _ _ => rfl
theorem AG.tr {a b c : KF} (h : AG a b) (k : AG b c) : AG a c := fun j h1 h2 h3 => (k j h1 h2 h3).trans (h j h1 h2 h3)
theorem AV.tr {a b c : VF} (h : AV a b) (k : AV b c) : AV a c := fun t ht => (k t ht).trans (h t ht)
theorem AG.six (k : KF) (x : Int32) : AG k (upd k 6 x) := fun _ _ h _ => upd_ne _ _ h
/-- what a note tells: the call x0 with x1, x2, x3 takes k, v with n tasks to k2, v2 with n2 -/
def OPR (x0 x1 x2 x3 : Int64) (k : KF) (v : VF) (n : Nat) (k2 : KF) (v2 : VF) (n2 : Nat) : Prop :=
  (∃ p b, p < 32 ∧ b ≤ 8 ∧ plen k p + b ≤ 1000 ∧ x0 = lN 0 ∧ x1 = lN p ∧ x3 = lN b ∧ k2 = upd (progB k p (plen k p) x2 b) (340 + p) (nI (plen k p + b)) ∧ v2 = v ∧ n2 = n) ∨
  (∃ a b c : Int32, n < 200 ∧ x0 = lN 1 ∧ x1 = a.toInt64 ∧ x2 = b.toInt64 ∧ x3 = c.toInt64 ∧ k2 = adK k n a b c (nI 100) (nI 0) ∧ v2 = vp_updL v n (lvF k v n).2 ∧ n2 = n + 1) ∨
  (∃ (t : Nat) (c : Int32), t < n ∧ x0 = lN 2 ∧ x1 = lN t ∧ x2 = c.toInt64 ∧ k2 = shrK k t c ∧ v2 = v ∧ n2 = n) ∨
  (∃ (t : Nat) (p b : Int32), t < n ∧ x0 = lN 3 ∧ x1 = lN t ∧ x2 = p.toInt64 ∧ x3 = b.toInt64 ∧ k2 = spK k t p b (k 0) ∧ v2 = v ∧ n2 = n) ∨
  (∃ p : Int32, x0 = lN 4 ∧ x1 = p.toInt64 ∧ k2 = upd k 2 p ∧ v2 = v ∧ n2 = n) ∨
  (∃ l, l < 100 ∧ x0 = lN 5 ∧ x1 = lN l ∧ k2 = upd k (240 + l) (-1) ∧ v2 = v ∧ n2 = n) ∨
  (∃ b : Int32, x0 = lN 6 ∧ x1 = b.toInt64 ∧ k2 = (rgF k b).1 ∧ v2 = v ∧ n2 = n) ∨
  (∃ (N : Nat) (lf : Nat → Int32), N ≤ 1000 ∧ x0 = lN 7 ∧ x1 = lN N ∧ k2 = (rnL N (k, v, lf) 0).1.1 ∧ v2 = (rnL N (k, v, lf) 0).1.2.1 ∧ k2 1 = nI n2 ∧ n2 ≤ 200)
def HI (nf : Nat → Int64) (s : Nat) (kf : KF) (vf : VF) (n : Nat) : Prop := ∃ (K : Nat → KF) (V : Nat → VF) (N : Nat → Nat), KI (K 0) ∧ N 0 = 0 ∧ (∀ i, i < s → ∃ k v, AG (K i) k ∧ AV (V i) v ∧ SN k v (N i) i ∧ OPR (nf (4 * i)) (nf (4 * i + 1)) (nf (4 * i + 2)) (nf (4 * i + 3)) k v (N i) (K (i + 1)) (V (i + 1)) (N (i + 1))) ∧ AG (K s) kf ∧ AV (V s) vf ∧ N s = n
theorem HI.cg {nf : Nat → Int64} {s n : Nat} {kf k' : KF} {vf v' : VF} (h : HI nf s kf vf n) (ha : AG kf k') (hv : AV vf v') : HI nf s k' v' n := by
  obtain ⟨K, V, N, h1, h2, h3, h4, h5, h6⟩ := h
  exact ⟨K, V, N, h1, h2, h3, h4.tr ha, h5.tr hv, h6⟩
theorem nfP_lo {nf : Nat → Int64} {s i : Nat} {x0 x1 x2 x3 : Int64} (h : i < 4 * s) : nfP nf s x0 x1 x2 x3 i = nf i := by
  unfold nfP
  rw [if_neg (by omega), if_neg (by omega), if_neg (by omega), if_neg (by omega)]
theorem nfP_at {nf : Nat → Int64} {s : Nat} {x0 x1 x2 x3 : Int64} : nfP nf s x0 x1 x2 x3 (4 * s) = x0 ∧ nfP nf s x0 x1 x2 x3 (4 * s + 1) = x1 ∧ nfP nf s x0 x1 x2 x3 (4 * s + 2) = x2 ∧ nfP nf s x0 x1 x2 x3 (4 * s + 3) = x3 := by
  unfold nfP
  refine ⟨by rw [if_pos rfl], by rw [if_neg (by omega), if_pos rfl], by rw [if_neg (by omega), if_neg (by omega), if_pos rfl], by rw [if_neg (by omega), if_neg (by omega), if_neg (by omega), if_pos rfl]⟩
theorem HI.ext {nf : Nat → Int64} {s n n2 : Nat} {kf k k2 : KF} {vf v v2 : VF} {x0 x1 x2 x3 : Int64} (h : HI nf s kf vf n) (ha : AG kf k) (hv : AV vf v) (hs : SN k v n s) (ho : OPR x0 x1 x2 x3 k v n k2 v2 n2) : HI (nfP nf s x0 x1 x2 x3) (s + 1) k2 v2 n2 := by
  obtain ⟨K, V, N, h1, h2, h3, h4, h5, h6⟩ := h
  refine ⟨fun i => if i ≤ s then K i else k2, fun i => if i ≤ s then V i else v2, fun i => if i ≤ s then N i else n2, ?_, ?_, fun i hi => ?_, ?_, ?_, ?_⟩
  · show KI (if 0 ≤ s then K 0 else k2)
    rw [if_pos (Nat.zero_le _)]
    exact h1
  · show (if 0 ≤ s then N 0 else n2) = 0
    rw [if_pos (Nat.zero_le _)]
    exact h2
  · show ∃ k v, AG (if i ≤ s then K i else k2) k ∧ AV (if i ≤ s then V i else v2) v ∧ SN k v (if i ≤ s then N i else n2) i ∧ OPR _ _ _ _ k v (if i ≤ s then N i else n2) (if i + 1 ≤ s then K (i + 1) else k2) (if i + 1 ≤ s then V (i + 1) else v2) (if i + 1 ≤ s then N (i + 1) else n2)
    rw [if_pos (show i ≤ s by omega), if_pos (show i ≤ s by omega), if_pos (show i ≤ s by omega)]
    by_cases e : i = s
    · subst e
      rw [if_neg (by omega), if_neg (by omega), if_neg (by omega), nfP_at.1, nfP_at.2.1, nfP_at.2.2.1, nfP_at.2.2.2, h6]
      exact ⟨k, v, h4.tr ha, h5.tr hv, hs, ho⟩
    · rw [if_pos (by omega), if_pos (by omega), if_pos (by omega), nfP_lo (by omega), nfP_lo (by omega), nfP_lo (by omega), nfP_lo (by omega)]
      exact h3 i (by omega)
  · show AG (if s + 1 ≤ s then K (s + 1) else k2) k2
    rw [if_neg (by omega)]
    exact AG.rf k2
  · show AV (if s + 1 ≤ s then V (s + 1) else v2) v2
    rw [if_neg (by omega)]
    exact AV.rf v2
  · show (if s + 1 ≤ s then N (s + 1) else n2) = n2
    rw [if_neg (by omega)]
/-- what a kernel tells stays where only that changes of which it does not speak -/
theorem ag_rl {k k' : KF} {n j : Nat} (hn : n ≤ 200) (h3 : (k 3).toNatClampNeg ≤ 8000) (h : AG k k') (hj : Rl 102000 k n j) : k' j = k j := by
  obtain ⟨h1, h2⟩ := rl_lr (by omega) hn hj
  have q : j < 142000 ∧ j ≠ 6 ∧ ¬ (62000 ≤ j ∧ j < 102000) := by
    unfold Rl at hj
    unfold plen at hj
    rcases hj with z | z | ⟨z1, z2, z3⟩ | z | z | ⟨t, w, z1, z2, z3⟩ | ⟨t, i, z1, z2, z3, z4, z5⟩ | ⟨p, i, z1, z2, z3, z4⟩ | ⟨i, z1, z2, z3⟩ <;> omega
  exact h j q.1 q.2.1 q.2.2
/-- the class's world: the object F, its kernel YL, its notes AN -/
def CW (m : Mem) (o : Nat → Nat) (F : Nat) (YL : YY) (AN : Nat × Nat × Nat) (kf : KF) (vf : VF) (n s : Nat) (nf : Nat → Int64) : Prop :=
  (gT m F = 6 ∧ o F = 8 ∧ F < zz m) ∧ (gP m 100 F = some (YL.1 0) ∧ gP m 101 F = some AN.1) ∧ (YL.2.1 = 1000 ∧ YL.2.2.2 = o) ∧ KS m YL 62000 kf vf n ∧ NS m o 10 AN s nf ∧ kf 6 = nI s
def SC (q : Nat) : Prop := q = 8 ∨ q = 10 ∨ q = 11 ∨ Ow 1000 q
def FR (m : Mem) (o : Nat → Nat) (F : Nat) (YL : YY) (AN : Nat × Nat × Nat) (mm : Mem) (o' : Nat → Nat) (YL' : YY) (AN' : Nat × Nat × Nat) : Prop :=
  FS SC m o mm o' ∧ (∀ f, gP mm f F = gP m f F) ∧ gI mm 106 F = gI m 106 F ∧ nn mm + pot YL.2.2.1 + AN.2.2 = nn m + pot YL'.2.2.1 + AN'.2.2 ∧ 16 * zz mm + pot YL.2.2.1 + AN.2.2 ≤ 16 * zz m + pot YL'.2.2.1 + AN'.2.2
theorem FR.rf (m : Mem) (o : Nat → Nat) (F : Nat) (YL : YY) (AN : Nat × Nat × Nat) : FR m o F YL AN m o YL AN := ⟨FS.rf _ m o, fun _ => rfl, rfl, rfl, Nat.le_refl _⟩
theorem FR.tr {m m1 m2 : Mem} {o o1 o2 : Nat → Nat} {F : Nat} {Y Y1 Y2 : YY} {A A1 A2 : Nat × Nat × Nat} (h : FR m o F Y A m1 o1 Y1 A1) (k : FR m1 o1 F Y1 A1 m2 o2 Y2 A2) : FR m o F Y A m2 o2 Y2 A2 := by
  obtain ⟨h1, h2, h3, h4, h5⟩ := h
  obtain ⟨k1, k2, k3, k4, k5⟩ := k
  exact ⟨h1.tr k1, fun f => (k2 f).trans (h2 f), k3.trans h3, by omega, by omega⟩
def PM (m : Mem) (o : Nat → Nat) (F : Nat) (YL : YY) (AN : Nat × Nat × Nat) (mm : Mem) (kf : KF) (vf : VF) (st : Int32) : Prop :=
  ∃ o' YL' AN' n' s' nf', CW mm o' F YL' AN' kf vf n' s' nf' ∧ SN kf vf n' s' ∧ HI nf' s' kf vf n' ∧ FR m o F YL AN mm o' YL' AN' ∧ gI mm 105 F = st
section CWs
variable {m mm : Mem} {o o' : Nat → Nat} {F : Nat} {YL : YY} {AN : Nat × Nat × Nat} {kf : KF} {vf : VF} {n s : Nat} {nf : Nat → Int64}
/-- a field of F that holds a number -/
theorem CW.f (h : CW m o F YL AN kf vf n s nf) (f : Nat) (x : Int32) : CW (sI m f F x) o F YL AN kf vf n s nf ∧ FS (fun q => q = 8) m o (sI m f F x) o := by
  obtain ⟨⟨h1, h2, h3⟩, h4, ⟨h5, h5'⟩, h6, h7, h8⟩ := h
  have fs : FS (fun q => q = 8) m o (sI m f F x) o := FS.wr (a := F) h2 rfl rfl rfl (fun b hb => eqa_sI hb)
  refine ⟨⟨⟨h1, h2, h3⟩, h4, ⟨h5, h5'⟩, ?_, h7.un fs (by omega) (by omega), h8⟩, fs⟩
  have := h6.un (by rw [h5']; exact fs) (fun c hc => by rw [h5] at hc; unfold Ow at hc; omega)
  rw [← h5', rY_self] at this
  exact this
theorem PM.ref (h : CW m o F YL AN kf vf n s nf) (h2 : SN kf vf n s) (h3 : HI nf s kf vf n) (x : Int32) : PM m o F YL AN (sI m 105 F x) kf vf x := by
  obtain ⟨a, b⟩ := h.f 105 x
  exact ⟨o, YL, AN, n, s, nf, a, h2, h3, ⟨b.up (fun c hc => Or.inl hc), fun _ => rfl, gI_nf (by omega), rfl, Nat.le_refl _⟩, u2_eq (gI m) 105 F x⟩
theorem PM.same (h : CW m o F YL AN kf vf n s nf) (h2 : SN kf vf n s) (h3 : HI nf s kf vf n) : PM m o F YL AN m kf vf (gI m 105 F) := ⟨o, YL, AN, n, s, nf, h, h2, h3, FR.rf m o F YL AN, rfl⟩
/-- an operation of the kernel -/
theorem CW.op {m2 : Mem} {Y2 : YY} {k2 : KF} {v2 : VF} {n2 : Nat} (h : CW m o F YL AN kf vf n s nf) (hq : KQ (m, YL) m2 Y2 62000 k2 v2 n2) (he : Y2.1 0 = YL.1 0) (h6 : k2 6 = kf 6) : CW m2 Y2.2.2.2 F Y2 AN k2 v2 n2 s nf ∧ FR m o F YL AN m2 Y2.2.2.2 Y2 AN ∧ gI m2 105 F = gI m 105 F := by
  obtain ⟨⟨g1, g2, g3⟩, ⟨g4, g4'⟩, ⟨g5, g5'⟩, g6, g7, g8⟩ := h
  have fs : FS (Ow 1000) m o m2 Y2.2.2.2 := by
    have := hq.2.2.fs
    rw [g5, g5'] at this
    exact this
  obtain ⟨a1, a2, a3, a4⟩ := fs.2.1 F g3
  have e := a4 (by rw [g2]; unfold Ow; omega)
  have fk := hq.2.2
  have p1 : nn m2 + pot YL.2.2.1 = nn m + pot Y2.2.2.1 := fk.2.2.2.1
  have p2 : 16 * zz m2 + pot YL.2.2.1 ≤ 16 * zz m + pot Y2.2.2.1 := fk.2.2.2.2.1
  refine ⟨⟨⟨a2.trans g1, a1.trans g2, Nat.lt_of_lt_of_le g3 fs.1⟩, ⟨?_, ?_⟩, ⟨(show Y2.2.1 = YL.2.1 from fk.2.1).trans g5, rfl⟩, hq.ks, g7.un fs (by unfold Ow; omega) (by unfold Ow; omega), h6.trans g8⟩, ⟨fs.up (fun c hc => Or.inr (Or.inr (Or.inr hc))), e.2.2.1, e.1 106, by omega, by omega⟩, e.1 105⟩
  · rw [e.2.2.1, he]
    exact g4
  · rw [e.2.2.1]
    exact g4'
/-- a noted call -/
theorem PM.mk {m1 m2 : Mem} {o1 : Nat → Nat} {Y1 Y2 : YY} {A1 : Nat × Nat × Nat} {k1 k2 : KF} {v2 : VF} {n2 : Nat} {x0 x1 x2 x3 : Int64} (h2 : SN kf vf n s) (h3 : HI nf s kf vf n) (hk : k1 = upd kf 6 (nI (s + 1))) (hC : CW m1 o1 F Y1 A1 k1 vf n (s + 1) (nfP nf s x0 x1 x2 x3)) (hR : FR m o F YL AN m1 o1 Y1 A1) (hst : gI m1 105 F = nI 0) (hq : KQ (m1, Y1) m2 Y2 62000 k2 v2 n2) (he : Y2.1 0 = Y1.1 0) (h6 : k2 6 = k1 6) (sn : SN k2 v2 n2 (s + 1)) (ho : OPR x0 x1 x2 x3 k1 vf n k2 v2 n2) : PM m o F YL AN m2 k2 v2 (nI 0) := by
  obtain ⟨c1, c2, c3⟩ := hC.op hq he h6
  refine ⟨_, Y2, A1, n2, s + 1, _, c1, sn, h3.ext (k := k1) (v := vf) (by rw [hk]; exact AG.six kf _) (AV.rf vf) (by rw [hk]; exact h2.six _) ho, hR.tr c2, c3.trans hst⟩
end CWs
theorem rf_no {kf : KF} {w : Int32} (h : 0 < w) : rfs kf w = w ∧ rfK kf w = kf ∧ rfB kf w = true := by
  have e : rfs kf w = w := rf_pos h
  refine ⟨e, ?_, rfB_pos h⟩
  unfold rfK
  rw [e, if_neg (fun q => absurd h (by rw [q]; decide))]
theorem rf_full {kf : KF} (h : kf 6 = nI 1000) : rfs kf (nI 0) = 5 ∧ rfK kf (nI 0) = kf ∧ rfB kf (nI 0) = true := by
  have e : rfs kf (nI 0) = 5 := by
    unfold rfs
    rw [if_neg (by decide), if_pos (by rw [h]; rfl)]
  refine ⟨e, ?_, ?_⟩
  · unfold rfK
    rw [e, if_neg (by decide)]
  · unfold rfB
    rw [e]
    decide
theorem rf_ok {kf : KF} {s : Nat} (h : kf 6 = nI s) (hs : s < 1000) : rfs kf (nI 0) = nI 0 ∧ rfK kf (nI 0) = upd kf 6 (nI (s + 1)) ∧ rfB kf (nI 0) = false := by
  have e : rfs kf (nI 0) = nI 0 := by
    unfold rfs
    rw [if_neg (by decide), if_neg (fun q => absurd ((nI_eq (by omega) (by decide)).mp (h.symm.trans (q.trans (show (1000 : Int32) = nI 1000 from rfl)))) (by omega))]
    rfl
  refine ⟨e, ?_, ?_⟩
  · unfold rfK
    rw [e, if_pos (by decide), h, nI_add]
  · unfold rfB
    rw [e]
    decide
