/-! the law: its beginning -/
def Stg (m : Mem) (M : Nat) (A : Mem) (k j : Nat) : Prop := zz A = zz m + k ∧ nn A = nn m + j ∧ (∀ f, f ≠ 126 → gI A f M = gI m f M) ∧ ∀ a, a < zz m → gT A a = gT m a ∧ gN A a = gN m a ∧ (a ≠ M → Eqa m A a)
theorem Stg.rf (m : Mem) (M : Nat) : Stg m M m 0 0 := ⟨rfl, rfl, fun _ _ => rfl, fun a _ => ⟨rfl, rfl, fun _ => Eqa.rf m a⟩⟩
theorem stg_5 {m A : Mem} {M k j t n f : Nat} (h : Stg m M A k j) (hM : M < zz m) : Stg m M (s5 A t n f M) (k + 1) (j + n) := by
  obtain ⟨h1, h2, h3, h4⟩ := h
  refine ⟨(s5_z A t n f M).trans (by omega), (s5_n A t n f M).trans (by omega), fun g hg => (s5_I A t n f M (by omega)).trans (h3 g hg), fun a ha => ⟨(s5_T A t n f M (by omega)).trans (h4 a ha).1, (s5_N A t n f M (by omega)).trans (h4 a ha).2.1, fun e => ((h4 a ha).2.2 e).tr (s5_eqa (by omega) e)⟩⟩
theorem stg_i {m A : Mem} {M k j : Nat} {x : Int32} (h : Stg m M A k j) : Stg m M (sI A 126 M x) k j := by
  obtain ⟨h1, h2, h3, h4⟩ := h
  exact ⟨h1, h2, fun g hg => (gI_nf hg).trans (h3 g hg), fun a ha => ⟨(h4 a ha).1, (h4 a ha).2.1, fun e => ((h4 a ha).2.2 e).tr (eqa_sI e)⟩⟩
theorem in_f {m : Mem} {N M : Nat} (hM : M < zz m) : Stg m M (inM m N M) 5 (N + 200 + N + 200 + 200) ∧ gI (inM m N M) 126 M = -1 := by
  have s4 := stg_5 (t := 13) (n := 200) (f := 123) (stg_5 (t := 12) (n := N) (f := 122) (stg_5 (t := 13) (n := 200) (f := 121) (stg_5 (t := 12) (n := N) (f := 120) (Stg.rf m M) hM) hM) hM) hM
  have e : inM m N M = s5 (sI (s5 (s5 (s5 (s5 m 12 N 120 M) 13 200 121 M) 12 N 122 M) 13 200 123 M) 126 M (-1)) 15 200 127 M := rfl
  rw [e]
  generalize s5 (s5 (s5 (s5 m 12 N 120 M) 13 200 121 M) 12 N 122 M) 13 200 123 M = B at s4
  have s6 := stg_5 (t := 15) (n := 200) (f := 127) (stg_i (x := -1) s4) hM
  refine ⟨?_, ?_⟩
  · rw [show N + 200 + N + 200 + 200 = 0 + N + 200 + N + 200 + 200 by omega]
    exact s6
  · have hz : M < zz (sI B 126 M (-1)) := by
      have := s4.1
      show M < zz B
      omega
    exact (s5_I (sI B 126 M (-1)) 15 200 127 M hz).trans (u2_eq (gI B) 126 M (-1))
theorem inK_hi {j : Nat} (hj : 372 ≤ j) : inK j = 0 := by
  have q1 : ∀ n, n ≤ 32 → ∀ k : KF, lp (fun p (k : KF) => upd k (340 + p) (-1)) n k j = k j := by
    intro n
    induction n with
    | zero => intro _ k; rfl
    | succ n ih => intro hn k; exact (upd_ne _ _ (by omega)).trans (ih (by omega) k)
  have q2 : ∀ n, n ≤ 100 → ∀ k : KF, lp (fun l (k : KF) => upd k (240 + l) (-2)) n k j = k j := by
    intro n
    induction n with
    | zero => intro _ k; rfl
    | succ n ih => intro hn k; exact (upd_ne _ _ (by omega)).trans (ih (by omega) k)
  exact (q1 32 (by omega) _).trans ((q2 100 (by omega) _).trans ((c4_at _ (by omega)).trans (upd_ne _ _ (by omega))))
theorem sn_in (v : VF) : SN inK v 0 0 := by
  obtain ⟨⟨k0, k1, k2, k3, k4, k5, k7, k220, k240, k340⟩, k6⟩ := ki_in
  have nt : nT inK = 0 := by unfold nT; rw [k1]; decide
  refine ⟨⟨⟨k1, by omega⟩, fun j hj => absurd hj (Nat.not_lt_zero _), fun l hl => Or.inl (by rw [k240 l hl]; decide), ⟨fun _ => 0, fun j i l hj => absurd hj (Nat.not_lt_zero _)⟩, fun j hj => absurd hj (Nat.not_lt_zero _), fun p hp => Or.inl (k340 p hp), fun i hi => by rw [inK_hi (by omega)]; decide, ⟨0, by omega, k3⟩, ⟨1, by omega, by omega, k2⟩⟩, 0, k0, by omega, ⟨fun t ht => ?_, fun l hl => Or.inl (k240 l hl), ⟨0, by omega, k5⟩, ⟨0, k0, by omega, by omega⟩⟩⟩
  rw [nt] at ht
  exact absurd ht (Nat.not_lt_zero _)
theorem hi_in (v : VF) (nf : Nat → Int64) : HI nf 0 inK v 0 := ⟨fun _ => inK, fun _ => v, fun _ => 0, ki_in.1, rfl, fun i hi => absurd hi (Nat.not_lt_zero _), AG.rf inK, AV.rf v, rfl⟩
def oA (z b q : Nat) : Nat := if q = z then 8 else if q = b then 7 else 0
def oB (o : Nat → Nat) (z q : Nat) : Nat := if q < z then o q else q - z + 1
theorem nw_I0 (m : Mem) (t n f : Nat) : gI (nw m t n) f (zz m) = 0 := by
  show z2 (gI m) (zz m) 0 f (zz m) = 0
  unfold z2
  rw [if_pos rfl]
/-- behind the two constructors -/
theorem law_iv {m0 m1 : Mem} {o2 : Nat → Nat} {YL : YY} {AN : Nat × Nat × Nat} {b L : Nat} {xs : Nat → Int32} (hb : gT m0 b = 18 ∧ gN m0 b = L ∧ aI m0 b = xs ∧ b < zz m0) (hCW : ∀ (kf : KF) (vf : VF) (nf : Nat → Int64), KI kf → kf 6 = nI 0 → CW m1 o2 (zz m0) YL AN kf vf 0 0 nf) (hF : FS SC (nw m0 6 7) (oA (zz m0) b) m1 o2) (hP : gP m1 102 (zz m0) = none ∧ gP m1 103 (zz m0) = none ∧ gP m1 104 (zz m0) = none) (hI : gI m1 105 (zz m0) = nI 0 ∧ gI m1 106 (zz m0) = -1) (hp : pot YL.2.2.1 = 1344) (hg : AN.2.2 = 256) (hz : zz m1 = zz (nw m0 6 7) + 275) (hn : nn m1 = nn (nw m0 6 7) + 6028) : IV (zz m0) (inX (nw m1 7 8) (zz m1)) b L xs (zz m0) (nn m0) (MM (inM (nw m1 7 8) 142000 (zz m1)) (inX (nw m1 7 8) (zz m1)) (inK, (fun _ => 0), (fun _ => 0))) := by
  obtain ⟨b1, b2, b3, b4⟩ := hb
  have z1 : zz (nw m0 6 7) = zz m0 + 1 := rfl
  have n1 : nn (nw m0 6 7) = nn m0 + 7 := rfl
  obtain ⟨w1, w2, w3, w4, w5⟩ := nw_0 m1 7 8
  have hlt : zz m1 < zz (nw m1 7 8) := by rw [w4]; omega
  obtain ⟨⟨i1, i2, i3, i4⟩, i5⟩ := in_f (m := nw m1 7 8) (N := 142000) (M := zz m1) hlt
  have hW := in_W (N := 142000) w1 hlt rfl
  have nI0 := nw_I0 m1 7 8
  have ne := fun q (hq : q < zz m1) => nw_eqa m1 7 8 hq
  -- the script
  have hbne : b ≠ zz m0 := by omega
  have ob : oA (zz m0) b b = 7 := by unfold oA; rw [if_neg hbne, if_pos rfl]
  have eb := nw_eqa m0 6 7 b4
  obtain ⟨f1, f2, f3, f4⟩ := hF.2.1 b (by omega)
  have f5 := f4 (by rw [ob]; unfold SC Ow; omega)
  have hSS : SS m1 o2 b L xs := ⟨f2.trans (eb.2.1.trans b1), f3.trans (eb.2.2.trans b2), f5.2.2.2.1.trans (eb.1.2.2.2.1.trans b3), f1.trans ob, by omega⟩
  -- codes so far
  have hcod : ∀ q, q < zz m1 → SC (o2 q) ∨ o2 q = 0 ∨ o2 q = 7 ∨ o2 q = 8 := fun q hq => by
    rcases Nat.lt_or_ge q (zz (nw m0 6 7)) with c | c
    · rw [(hF.2.1 q c).1]
      unfold oA
      by_cases e1 : q = zz m0
      · rw [if_pos e1]
        omega
      · rw [if_neg e1]
        by_cases e2 : q = b
        · rw [if_pos e2]
          omega
        · rw [if_neg e2]
          omega
    · exact Or.inl (hF.2.2 q c hq)
  have hX : inX (nw m1 7 8) (zz m1) = (zz m1, zz m1 + 1, zz m1 + 2, zz m1 + 3, zz m1 + 4, zz m1 + 5) := rfl
  rw [w4] at i1
  rw [w5] at i2
  generalize inM (nw m1 7 8) 142000 (zz m1) = B at *
  generalize nw m1 7 8 = W1 at *
  rw [hX] at hW ⊢
  generalize hXX : ((zz m1, zz m1 + 1, zz m1 + 2, zz m1 + 3, zz m1 + 4, zz m1 + 5) : XX) = X at *
  have x1 : X.1 = zz m1 := by rw [← hXX]
  have x2 : X.2.1 = zz m1 + 1 := by rw [← hXX]
  have x3 : X.2.2.1 = zz m1 + 2 := by rw [← hXX]
  have x4 : X.2.2.2.1 = zz m1 + 3 := by rw [← hXX]
  have x5 : X.2.2.2.2.1 = zz m1 + 4 := by rw [← hXX]
  have x6 : X.2.2.2.2.2 = zz m1 + 5 := by rw [← hXX]
  have hW2 : MW (MM B X (inK, (fun _ => 0), (fun _ => 0))) X := hW
  have kk := mm_k hW (inK, (fun _ => 0), (fun _ => 0))
  have vv := mm_v B X (inK, (fun _ => 0), (fun _ => 0))
  have ll := mm_l B X (inK, (fun _ => 0), (fun _ => 0))
  have me : ∀ q, q < zz m1 → Eqa B (MM B X (inK, (fun _ => 0), (fun _ => 0))) q := fun q hq => MM.eqa (by omega) (by omega) (by omega)
  have mz : zz (MM B X (inK, (fun _ => 0), (fun _ => 0))) = zz B ∧ nn (MM B X (inK, (fun _ => 0), (fun _ => 0))) = nn B ∧ gT (MM B X (inK, (fun _ => 0), (fun _ => 0))) = gT B ∧ gN (MM B X (inK, (fun _ => 0), (fun _ => 0))) = gN B ∧ gI (MM B X (inK, (fun _ => 0), (fun _ => 0))) = gI B := ⟨rfl, rfl, rfl, rfl, rfl⟩
  generalize MM B X (inK, (fun _ => 0), (fun _ => 0)) = M2 at *
  obtain ⟨mz1, mz2, mz3, mz4, mz5⟩ := mz
  have fs : FS SX m1 o2 M2 (oB o2 (zz m1)) := by
    refine ⟨by omega, fun q hq => ?_, fun q h1 h2 => ?_⟩
    · obtain ⟨e1, e2, e3⟩ := ne q hq
      obtain ⟨g1, g2, g3⟩ := i4 q (by omega)
      refine ⟨?_, by rw [mz3, g1, e2], by rw [mz4, g2, e3], fun _ => (e1.tr (g3 (by omega))).tr (me q hq)⟩
      unfold oB
      rw [if_pos hq]
    · unfold oB SX
      rw [if_neg (by omega)]
      omega
  have hc8 := (hCW inK (fun _ => 0) (fun _ => 0) ki_in.1 ki_in.2).1
  have eF := (fs.2.1 (zz m0) hc8.2.2).2.2.2 (by rw [hc8.2.1]; unfold SX; omega)
  have no : ∀ c0, (c0 = 2000 ∨ c0 = 3000) → ∀ q, q < zz M2 → ¬ Ow c0 (oB o2 (zz m1) q) := fun c0 hc0 q hq hO => by
    unfold oB at hO
    by_cases e : q < zz m1
    · rw [if_pos e] at hO
      have := hcod q e
      unfold SC at this
      unfold Ow at *
      omega
    · rw [if_neg e] at hO
      unfold Ow at hO
      omega
  have ox : ∀ k, k < 6 → oB o2 (zz m1) (zz m1 + k) = k + 1 := fun k hk => by
    unfold oB
    rw [if_neg (by omega)]
    omega
  refine ⟨oB o2 (zz m1), rY YL (oB o2 (zz m1)), AN, inK, fun _ => 0, 0, 0, fun _ => 0, fun _ => 0, 0, 0, ⟨(hCW inK (fun _ => 0) (fun _ => 0) ki_in.1 ki_in.2).un fs (fun c h1 h2 => by unfold SC at h1; unfold SX; unfold Ow at *; omega) (fun f _ => eF.2.2.1 f), sn_in _, hi_in _ _⟩, ⟨hW2, ⟨kk, vv, ll⟩, ⟨by rw [x1]; exact ox 0 (by omega), by rw [x2]; exact ox 1 (by omega), by rw [x3]; exact ox 2 (by omega), by rw [x4]; exact ox 3 (by omega), by rw [x5]; exact ox 4 (by omega), by rw [x6]; exact ox 5 (by omega)⟩, ⟨by omega, by omega, by omega, by omega, by omega, by omega⟩⟩, ⟨?_, ?_⟩, Or.inl ⟨by rw [eF.2.2.1]; exact hP.1, no 2000 (Or.inl rfl), rfl⟩, Or.inl ⟨by rw [eF.2.2.1]; exact hP.2.1, by rw [eF.2.2.1]; exact hP.2.2, no 3000 (Or.inr rfl), rfl⟩, Or.inl ⟨?_, by rw [eF.2.2.1]; exact hP.2.1⟩, hSS.un fs (by unfold SX; omega), ⟨?_, ?_⟩⟩
  · rw [eF.1 105, hI.1, mz5, x1, i3 125 (by omega), nI0 125]
    rfl
  · rw [eF.1 106, hI.2, mz5, x1, i5]
  · rw [mz5, x1, i3 124 (by omega), nI0 124]
    rfl
  · show nn M2 ≤ nn m0 + 300000 + pot YL.2.2.1 + AN.2.2 + 0 + 0
    omega
  · show zz M2 ≤ zz m0 + 10000 + pot YL.2.2.1 + AN.2.2 + 0 + 0
    omega

theorem oA_fr {m0 : Mem} (b : Nat) : ∀ q, q < zz (nw m0 6 7) → ¬ Ow 1000 (oA (zz m0) b q) := fun q _ hO => by
  unfold oA Ow at hO
  by_cases e1 : q = zz m0
  · rw [if_pos e1] at hO
    omega
  · rw [if_neg e1] at hO
    by_cases e2 : q = b
    · rw [if_pos e2] at hO
      omega
    · rw [if_neg e2] at hO
      omega

set_option maxRecDepth 100000 in
set_option maxHeartbeats 4000000 in
theorem law_start {G : GG} {m0 : Mem} {b L : Nat} {xs : Nat → Int32} (hL : L ≤ 2560) (hb : gT m0 b = 18 ∧ gN m0 b = L ∧ aI m0 b = xs ∧ b < zz m0) : EvR G 12 uL_law (zz m0) (nn m0) (fun r mm => r = some (.int (nI 1)) ∧ zz mm ≤ zz m0 + 580145 ∧ nn mm ≤ nn m0 + 7361814) 0 [(0, .ref b)] [] m0 := by
  refine r_go (fun kk => e_new (ci := 5) dL_law_0 rfl cl_L_7 ins_X5 ini_X5 kk) ?_
  refine r_go (fun kk => e_dup dL_law_3 rfl kk) ?_
  obtain ⟨_, m1, ⟨rfl, o2, YL, AN, hCW, hFS, hP, hI, hp, hg, hz, hn⟩, E5⟩ := k5_init (G := G) (m := nw m0 6 7) (o := oA (zz m0) b) (F := zz m0) (nw_0 m0 6 7).1 (Nat.lt_succ_self _) (if_pos rfl) (oA_fr b)
  refine r_go (fun kk => e_callI (st := [.ref (zz m0)]) (As := []) (E5) dL_law_4 (by decide) cm_X5_init rfl rfl lk_L_9 im_X5_init rfl rfl (Nat.le_of_ble_eq_true rfl) kk) ?_
  refine r_go (fun kk => e_astore_n (lv' := [(1, .ref (zz m0)), (0, .ref b)]) dL_law_7 (by decide) rfl kk) ?_
  refine r_go (fun kk => e_new (ci := 6) dL_law_8 rfl cl_L_10 ins_X6 ini_X6 kk) ?_
  refine r_go (fun kk => e_dup dL_law_11 rfl kk) ?_
  refine r_go (fun kk => e_callI (st := [.ref (zz m1)]) (As := []) (m_init (G := G) (m := nw m1 7 8) (M := zz m1) (nw_0 m1 7 8).1 (Nat.lt_succ_self _)) dL_law_12 (by decide) cm_X6_init rfl rfl lk_L_12 im_X6_init rfl rfl (Nat.le_of_ble_eq_true rfl) kk) ?_
  refine r_go (fun kk => e_astore_n (lv' := [(2, .ref (zz m1)), (1, .ref (zz m0)), (0, .ref b)]) dL_law_15 (by decide) rfl kk) ?_
  refine r_go (fun kk => e_ic (nI 0) dL_law_16 (by decide) kk) ?_
  refine r_go (fun kk => e_istore_n (lv' := [(3, .int (nI 0)), (2, .ref (zz m1)), (1, .ref (zz m0)), (0, .ref b)]) dL_law_17 (by decide) rfl kk) ?_
  refine r_go (fun kk => e_sub [0, 3, 2, 1] rfl kk) ?_
  exact law_loop (X := inX (nw m1 7 8) (zz m1)) hL 512 0 _ (by omega) (by omega) (law_iv hb hCW hFS hP hI hp hg hz hn)
