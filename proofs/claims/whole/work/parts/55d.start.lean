/-! the law: its beginning -/
def Stg (m : Mem) (M : Nat) (A : Mem) (k j : Nat) : Prop := zz A = zz m + k ∧ nn A = nn m + j ∧ (∀ f, f ≠ 126 → gI A f M = gI m f M) ∧ ∀ a, a < zz m → gT A a = gT m a ∧ gN A a = gN m a ∧ (a ≠ M → Eqa m A a)
theorem Stg.rf (m : Mem) (M : Nat) : Stg m M m 0 0 := ⟨rfl, rfl, fun _ _ => rfl, fun a _ => ⟨rfl, rfl, fun _ => Eqa.rf m a⟩⟩
theorem stg_5 {m A : Mem} {M k j t n f : Nat} (h : Stg m M A k j) (hM : M < zz m) : Stg m M (s5 A t n f M) (k + 1) (j + n) := by
  obtain ⟨h1, h2, h3, h4⟩ := h
  refine ⟨(s5_z A t n f M).trans (by omega), (s5_n A t n f M).trans (by omega), fun g hg => (s5_I A t n f M (by omega)).trans (h3 g hg), fun a ha => ⟨(s5_T A t n f M (by omega)).trans (h4 a ha).1, (s5_N A t n f M (by omega)).trans (h4 a ha).2.1, fun e => ((h4 a ha).2.2 e).tr (s5_eqa (by omega) e)⟩⟩
theorem stg_i {m A : Mem} {M k j : Nat} {x : Int32} (h : Stg m M A k j) : Stg m M (sI A 126 M x) k j := by
  obtain ⟨h1, h2, h3, h4⟩ := h
  exact ⟨h1, h2, fun g hg => (gI_nf hg).trans (h3 g hg), fun a ha => ⟨(h4 a ha).1, (h4 a ha).2.1, fun e => ((h4 a ha).2.2 e).tr (eqa_sI e)⟩⟩
theorem in_f1 {m : Mem} {N M : Nat} (hM : M < zz m) : Stg m M (inM m N M) (0 + 1 + 1 + 1 + 1 + 1) (0 + N + 200 + N + 200 + 200) := by
  unfold inM
  exact stg_5 (stg_i (stg_5 (stg_5 (stg_5 (stg_5 (Stg.rf m M) hM) hM) hM) hM)) hM
theorem s5_126 {B : Mem} {t n f M : Nat} {x : Int32} (h : M < zz B) : gI (s5 (sI B 126 M x) t n f M) 126 M = x := (s5_I (sI B 126 M x) t n f M (a := M) (g := 126) h).trans (u2_eq (gI B) 126 M x)
theorem in_f2 {m : Mem} {N M : Nat} (hM : M < zz m) : gI (inM m N M) 126 M = -1 := by
  unfold inM
  refine s5_126 ?_
  rw [s5_z, s5_z, s5_z, s5_z]
  omega
theorem inK_hi {j : Nat} (hj : 372 ≤ j) : inK j = 0 := by
  have q1 : ∀ n, n ≤ 32 → ∀ k : KF, lp (fun p (k : KF) => upd k (340 + p) (-1)) n k j = k j := by
    intro n
    induction n with
    | zero => intro _ k; rfl
    | succ n ih => intro hn k; exact (upd_ne _ _ (by omega)).trans (ih (by omega) k)
  have q2 : ∀ n, n ≤ 100 → ∀ k : KF, lp (fun l (k : KF) => upd k (240 + l) (-2)) n k j = k j := by
    intro n
    induction n with
    | zero => intro _ k; rfl
    | succ n ih => intro hn k; exact (upd_ne _ _ (by omega)).trans (ih (by omega) k)
  exact (q1 32 (by omega) _).trans ((q2 100 (by omega) _).trans ((c4_at _ (by omega)).trans (upd_ne _ _ (by omega))))
theorem sn_in (v : VF) : SN inK v 0 0 := by
  obtain ⟨⟨k0, k1, k2, k3, k4, k5, k7, k220, k240, k340⟩, k6⟩ := ki_in
  have nt : nT inK = 0 := by unfold nT; rw [k1]; decide
  refine ⟨⟨⟨k1, by omega⟩, fun j hj => absurd hj (Nat.not_lt_zero _), fun l hl => Or.inl (by rw [k240 l hl]; decide), ⟨fun _ => 0, fun j i l hj => absurd hj (Nat.not_lt_zero _)⟩, fun j hj => absurd hj (Nat.not_lt_zero _), fun p hp => Or.inl (k340 p hp), fun i hi => by rw [inK_hi (by omega)]; decide, ⟨0, by omega, k3⟩, ⟨1, by omega, by omega, k2⟩⟩, 0, k0, by omega, ⟨fun t ht => ?_, fun l hl => Or.inl (k240 l hl), ⟨0, by omega, k5⟩, ⟨0, k0, by omega, by omega⟩⟩⟩
  rw [nt] at ht
  exact absurd ht (Nat.not_lt_zero _)
theorem hi_in (v : VF) (nf : Nat → Int64) : HI nf 0 inK v 0 := ⟨fun _ => inK, fun _ => v, fun _ => 0, ki_in.1, rfl, fun i hi => absurd hi (Nat.not_lt_zero _), AG.rf inK, AV.rf v, rfl⟩
def oA (z b q : Nat) : Nat := if q = z then 8 else if q = b then 7 else 0
def oB (o : Nat → Nat) (z q : Nat) : Nat := if q < z then o q else q - z + 1
theorem nw_I0 (m : Mem) (t n f : Nat) : gI (nw m t n) f (zz m) = 0 := by
  show z2 (gI m) (zz m) 0 f (zz m) = 0
  unfold z2
  rw [if_pos rfl]
theorem in_n {N : Nat} (h : N = 142000) : 0 + N + 200 + N + 200 + 200 = 284600 := by omega
theorem in_n2 {x y w : Nat} (h : x = y + 284600) (k : y = w + 8) : x = w + 284608 := by omega
/-- the reference's cells behind its allocations -/
theorem in_g {m : Mem} {N : Nat} (hN : N = 142000) : MW (inM (nw m 7 8) N (zz m)) (inX (nw m 7 8) (zz m)) ∧ zz (inM (nw m 7 8) N (zz m)) = zz m + 6 ∧ nn (inM (nw m 7 8) N (zz m)) = nn m + 284608 ∧ gI (inM (nw m 7 8) N (zz m)) 126 (zz m) = -1 ∧ (∀ f, f ≠ 126 → gI (inM (nw m 7 8) N (zz m)) f (zz m) = 0) ∧ ∀ a, a < zz m → gT (inM (nw m 7 8) N (zz m)) a = gT m a ∧ gN (inM (nw m 7 8) N (zz m)) a = gN m a ∧ Eqa m (inM (nw m 7 8) N (zz m)) a := by
  obtain ⟨w1, w2, w3, w4, w5⟩ := nw_0 m 7 8
  have nI0 := nw_I0 m 7 8
  have ne := fun q (hq : q < zz m) => nw_eqa m 7 8 hq
  generalize nw m 7 8 = W1 at *
  have hlt : zz m < zz W1 := by rw [w4]; omega
  obtain ⟨i1, i2, i3, i4⟩ := in_f1 (m := W1) (N := N) (M := zz m) hlt
  have i5 := in_f2 (m := W1) (N := N) (M := zz m) hlt
  have hW := in_W (N := N) w1 hlt hN
  generalize inM W1 N (zz m) = B at *
  rw [in_n hN] at i2
  refine ⟨hW, by clear hW hN i2; omega, in_n2 i2 w5, i5, fun f hf => (i3 f hf).trans (nI0 f), fun a ha => ?_⟩
  obtain ⟨e1, e2, e3⟩ := ne a ha
  obtain ⟨g1, g2, g3⟩ := i4 a (Nat.lt_trans ha hlt)
  exact ⟨g1.trans e2, g2.trans e3, e1.tr (g3 (Nat.ne_of_lt ha))⟩
/-- the class behind its constructor: the script is there, and codes -/
theorem law_c {m0 m1 : Mem} {o2 : Nat → Nat} {b L : Nat} {xs : Nat → Int32} (hb : gT m0 b = 18 ∧ gN m0 b = L ∧ aI m0 b = xs ∧ b < zz m0) (hF : FS SC (nw m0 6 7) (oA (zz m0) b) m1 o2) : SS m1 o2 b L xs ∧ ∀ q, q < zz m1 → SC (o2 q) ∨ o2 q = 0 ∨ o2 q = 7 ∨ o2 q = 8 := by
  obtain ⟨b1, b2, b3, b4⟩ := hb
  have z1 : zz (nw m0 6 7) = zz m0 + 1 := (nw_0 m0 6 7).2.2.2.1
  have eb := nw_eqa m0 6 7 b4
  generalize nw m0 6 7 = W0 at *
  have hbne : b ≠ zz m0 := by omega
  have ob : oA (zz m0) b b = 7 := by unfold oA; rw [if_neg hbne, if_pos rfl]
  obtain ⟨f1, f2, f3, f4⟩ := hF.2.1 b (by omega)
  have f5 := f4 (by rw [ob]; unfold SC Ow; omega)
  refine ⟨⟨f2.trans (eb.2.1.trans b1), f3.trans (eb.2.2.trans b2), f5.2.2.2.1.trans (eb.1.2.2.2.1.trans b3), f1.trans ob, by have := hF.1; omega⟩, fun q hq => ?_⟩
  rcases Nat.lt_or_ge q (zz W0) with c | c
  · rw [(hF.2.1 q c).1]
    unfold oA
    by_cases e1 : q = zz m0
    · rw [if_pos e1]
      omega
    · rw [if_neg e1]
      by_cases e2 : q = b
      · rw [if_pos e2]
        omega
      · rw [if_neg e2]
        omega
  · exact Or.inl (hF.2.2 q c hq)
theorem mm_start {B : Mem} {X : XX} {S' : MS} (hW : MW B X) : MW (MM B X S') X ∧ aI (MM B X S') X.2.1 = S'.1 ∧ aL (MM B X S') X.2.2.1 = S'.2.1 ∧ aI (MM B X S') X.2.2.2.2.2 = S'.2.2 ∧ zz (MM B X S') = zz B ∧ nn (MM B X S') = nn B ∧ gT (MM B X S') = gT B ∧ gN (MM B X S') = gN B ∧ gI (MM B X S') = gI B := ⟨hW, mm_k hW S', mm_v B X S', mm_l B X S', rfl, rfl, rfl, rfl, rfl⟩
theorem law_iw {m1 B : Mem} {X : XX} {o2 : Nat → Nat} {F : Nat} {YL : YY} {AN : Nat × Nat × Nat} {b L z0 n0 : Nat} {xs : Nat → Int32} (hCW : ∀ (kf : KF) (vf : VF) (nf : Nat → Int64), KI kf → kf 6 = nI 0 → CW m1 o2 F YL AN kf vf 0 0 nf) (hSS : SS m1 o2 b L xs) (hcod : ∀ q, q < zz m1 → SC (o2 q) ∨ o2 q = 0 ∨ o2 q = 7 ∨ o2 q = 8) (hP : gP m1 102 F = none ∧ gP m1 103 F = none ∧ gP m1 104 F = none) (hI : gI m1 105 F = nI 0 ∧ gI m1 106 F = -1) (hp : pot YL.2.2.1 = 1344) (hg : AN.2.2 = 256) (hz : zz m1 = z0 + 276) (hn : nn m1 = n0 + 6035)
    (hW : MW B X) (i1 : zz B = zz m1 + 6) (i2 : nn B = nn m1 + 284608) (x1 : X.1 = zz m1) (x2 : X.2.1 = zz m1 + 1) (x3 : X.2.2.1 = zz m1 + 2) (x4 : X.2.2.2.1 = zz m1 + 3) (x5 : X.2.2.2.2.1 = zz m1 + 4) (x6 : X.2.2.2.2.2 = zz m1 + 5) (i5 : gI B 126 (zz m1) = -1) (i3 : ∀ f, f ≠ 126 → gI B f (zz m1) = 0) (i4 : ∀ a, a < zz m1 → gT B a = gT m1 a ∧ gN B a = gN m1 a ∧ Eqa m1 B a) : IV F X b L xs z0 n0 (MM B X (inK, (fun _ => 0), (fun _ => 0))) := by
  have me : ∀ q, q < zz m1 → Eqa B (MM B X (inK, (fun _ => 0), (fun _ => 0))) q := fun q hq => MM.eqa (by omega) (by omega) (by omega)
  obtain ⟨hW2, kk, vv, ll, mz1, mz2, mz3, mz4, mz5⟩ := mm_start (S' := (inK, (fun _ => 0), (fun _ => 0))) hW
  generalize MM B X (inK, (fun _ => 0), (fun _ => 0)) = M2 at *
  have fs : FS SX m1 o2 M2 (oB o2 (zz m1)) := by
    refine ⟨by omega, fun q hq => ?_, fun q h1 h2 => ?_⟩
    · obtain ⟨g1, g2, g3⟩ := i4 q hq
      refine ⟨?_, by rw [mz3, g1], by rw [mz4, g2], fun _ => g3.tr (me q hq)⟩
      unfold oB
      rw [if_pos hq]
    · unfold oB SX
      rw [if_neg (by omega)]
      omega
  have hc8 := (hCW inK (fun _ => 0) (fun _ => 0) ki_in.1 ki_in.2).1
  have eF := (fs.2.1 F hc8.2.2).2.2.2 (by rw [hc8.2.1]; unfold SX; omega)
  have no : ∀ c0, (c0 = 2000 ∨ c0 = 3000) → ∀ q, q < zz M2 → ¬ Ow c0 (oB o2 (zz m1) q) := fun c0 hc0 q hq hO => by
    unfold oB at hO
    by_cases e : q < zz m1
    · rw [if_pos e] at hO
      have := hcod q e
      unfold SC at this
      unfold Ow at *
      omega
    · rw [if_neg e] at hO
      unfold Ow at hO
      omega
  have ox : ∀ k, k < 6 → oB o2 (zz m1) (zz m1 + k) = k + 1 := fun k hk => by
    unfold oB
    rw [if_neg (by omega)]
    omega
  have hC2 : CW M2 (oB o2 (zz m1)) F (rY YL (oB o2 (zz m1))) AN inK (fun _ => 0) 0 0 (fun _ => 0) := (hCW inK (fun _ => 0) (fun _ => 0) ki_in.1 ki_in.2).un fs (fun c h1 h2 => by unfold SC at h1; unfold SX; unfold Ow at *; omega) (fun f _ => eF.2.2.1 f)
  have hRF : RF M2 (oB o2 (zz m1)) X inK (fun _ => 0) (fun _ => 0) := ⟨hW2, ⟨kk, vv, ll⟩, ⟨by rw [x1]; exact ox 0 (by omega), by rw [x2]; exact ox 1 (by omega), by rw [x3]; exact ox 2 (by omega), by rw [x4]; exact ox 3 (by omega), by rw [x5]; exact ox 4 (by omega), by rw [x6]; exact ox 5 (by omega)⟩, ⟨by omega, by omega, by omega, by omega, by omega, by omega⟩⟩
  have h125 : gI M2 125 X.1 = 0 := by rw [mz5, x1]; exact i3 125 (by omega)
  have h124 : gI M2 124 X.1 = 0 := by rw [mz5, x1]; exact i3 124 (by omega)
  have h126 : gI M2 126 X.1 = -1 := by rw [mz5, x1]; exact i5
  have p2 : gP M2 102 F = none := (eF.2.2.1 102).trans hP.1
  have p3 : gP M2 103 F = none := (eF.2.2.1 103).trans hP.2.1
  have p4 : gP M2 104 F = none := (eF.2.2.1 104).trans hP.2.2
  have q5 : gI M2 105 F = gI M2 125 X.1 := ((eF.1 105).trans hI.1).trans h125.symm
  have q6 : gI M2 106 F = gI M2 126 X.1 := ((eF.1 106).trans hI.2).trans h126.symm
  have hS2 := hSS.un fs (by unfold SX; omega)
  have hAC : AC0 z0 n0 M2 (pot (rY YL (oB o2 (zz m1))).2.2.1) AN.2.2 0 0 := by
    unfold AC0
    show nn M2 ≤ n0 + 300000 + pot YL.2.2.1 + AN.2.2 + 0 + 0 ∧ 16 * zz M2 ≤ 16 * z0 + 10000 + pot YL.2.2.1 + AN.2.2 + 0 + 0
    exact ⟨by omega, by omega⟩
  exact ⟨oB o2 (zz m1), rY YL (oB o2 (zz m1)), AN, inK, fun _ => 0, 0, 0, fun _ => 0, fun _ => 0, 0, 0, ⟨hC2, sn_in _, hi_in _ _⟩, hRF, ⟨q5, q6⟩, Or.inl ⟨p2, no 2000 (Or.inl rfl), rfl⟩, Or.inl ⟨p3, p4, no 3000 (Or.inr rfl), rfl⟩, Or.inl ⟨h124, p3⟩, hS2, hAC⟩
theorem inX_f {m : Mem} {M : Nat} : (inX m M).1 = M ∧ (inX m M).2.1 = zz m ∧ (inX m M).2.2.1 = zz m + 1 ∧ (inX m M).2.2.2.1 = zz m + 2 ∧ (inX m M).2.2.2.2.1 = zz m + 3 ∧ (inX m M).2.2.2.2.2 = zz m + 4 := ⟨rfl, rfl, rfl, rfl, rfl, rfl⟩
/-- behind the two constructors -/
theorem law_iv {m0 m1 : Mem} {o2 : Nat → Nat} {YL : YY} {AN : Nat × Nat × Nat} {b L N : Nat} {xs : Nat → Int32} (hN : N = 142000) (hb : gT m0 b = 18 ∧ gN m0 b = L ∧ aI m0 b = xs ∧ b < zz m0) (hCW : ∀ (kf : KF) (vf : VF) (nf : Nat → Int64), KI kf → kf 6 = nI 0 → CW m1 o2 (zz m0) YL AN kf vf 0 0 nf) (hF : FS SC (nw m0 6 7) (oA (zz m0) b) m1 o2) (hP : gP m1 102 (zz m0) = none ∧ gP m1 103 (zz m0) = none ∧ gP m1 104 (zz m0) = none) (hI : gI m1 105 (zz m0) = nI 0 ∧ gI m1 106 (zz m0) = -1) (hp : pot YL.2.2.1 = 1344) (hg : AN.2.2 = 256) (hz : zz m1 = zz (nw m0 6 7) + 275) (hn : nn m1 = nn (nw m0 6 7) + 6028) : IV (zz m0) (inX (nw m1 7 8) (zz m1)) b L xs (zz m0) (nn m0) (MM (inM (nw m1 7 8) N (zz m1)) (inX (nw m1 7 8) (zz m1)) (inK, (fun _ => 0), (fun _ => 0))) := by
  obtain ⟨hSS, hcod⟩ := law_c hb hF
  have w0 := nw_0 m0 6 7
  have w1 := (nw_0 m1 7 8).2.2.2.1
  obtain ⟨g1, g2, g3, g4, g5, g6⟩ := in_g (m := m1) hN
  obtain ⟨x1, x2, x3, x4, x5, x6⟩ := inX_f (m := nw m1 7 8) (M := zz m1)
  rw [w1] at x2 x3 x4 x5 x6
  exact law_iw hCW hSS hcod hP hI hp hg (by rw [hz, w0.2.2.2.1]) (by rw [hn, w0.2.2.2.2]) g1 g2 g3 x1 x2 x3 x4 x5 x6 g4 g5 g6

theorem oA_fr {m0 : Mem} (b : Nat) : ∀ q, q < zz (nw m0 6 7) → ¬ Ow 1000 (oA (zz m0) b q) := fun q _ hO => by
  unfold oA Ow at hO
  by_cases e1 : q = zz m0
  · rw [if_pos e1] at hO
    omega
  · rw [if_neg e1] at hO
    by_cases e2 : q = b
    · rw [if_pos e2] at hO
      omega
    · rw [if_neg e2] at hO
      omega

set_option maxRecDepth 100000 in
set_option maxHeartbeats 4000000 in
theorem law_start {G : GG} {m0 : Mem} {b L : Nat} {xs : Nat → Int32} (hL : L ≤ 2560) (hb : gT m0 b = 18 ∧ gN m0 b = L ∧ aI m0 b = xs ∧ b < zz m0) : EvR G 12 uL_law (zz m0) (nn m0) (fun r mm => r = some (.int (nI 1)) ∧ zz mm ≤ zz m0 + 33992 ∧ nn mm ≤ nn m0 + 833886) 0 [(0, .ref b)] [] m0 := by
  refine r_go (fun kk => e_new (ci := 5) dL_law_0 rfl cl_L_7 ins_X5 ini_X5 kk) ?_
  refine r_go (fun kk => e_dup dL_law_3 rfl kk) ?_
  obtain ⟨_, m1, ⟨rfl, o2, YL, AN, hCW, hFS, hP, hI, hp, hg, hz, hn⟩, E5⟩ := k5_init (G := G) (m := nw m0 6 7) (o := oA (zz m0) b) (F := zz m0) (nw_0 m0 6 7).1 (Nat.lt_succ_self _) (if_pos rfl) (oA_fr b)
  refine r_go (fun kk => e_callI (st := [.ref (zz m0)]) (As := []) (E5) dL_law_4 (by decide) cm_X5_init rfl rfl lk_L_9 im_X5_init rfl rfl (Nat.le_of_ble_eq_true rfl) kk) ?_
  refine r_go (fun kk => e_astore_n (lv' := [(1, .ref (zz m0)), (0, .ref b)]) dL_law_7 (by decide) rfl kk) ?_
  refine r_go (fun kk => e_new (ci := 6) dL_law_8 rfl cl_L_10 ins_X6 ini_X6 kk) ?_
  refine r_go (fun kk => e_dup dL_law_11 rfl kk) ?_
  refine r_go (fun kk => e_callI (st := [.ref (zz m1)]) (As := []) (m_init (G := G) (m := nw m1 7 8) (M := zz m1) (nw_0 m1 7 8).1 (Nat.lt_succ_self _)) dL_law_12 (by decide) cm_X6_init rfl rfl lk_L_12 im_X6_init rfl rfl (Nat.le_of_ble_eq_true rfl) kk) ?_
  refine r_go (fun kk => e_astore_n (lv' := [(2, .ref (zz m1)), (1, .ref (zz m0)), (0, .ref b)]) dL_law_15 (by decide) rfl kk) ?_
  refine r_go (fun kk => e_ic (nI 0) dL_law_16 (by decide) kk) ?_
  refine r_go (fun kk => e_istore_n (lv' := [(3, .int (nI 0)), (2, .ref (zz m1)), (1, .ref (zz m0)), (0, .ref b)]) dL_law_17 (by decide) rfl kk) ?_
  refine r_go (fun kk => e_sub [0, 3, 2, 1] rfl kk) ?_
  exact law_loop (X := inX (nw m1 7 8) (zz m1)) hL 512 0 _ (by omega) (by omega) (law_iv rfl hb hCW hFS hP hI hp hg hz hn)
