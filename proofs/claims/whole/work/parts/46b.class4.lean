/-! the class: short numbers -/
section Class4
variable {G : GG} {Z : Mem × YY} {m : Mem} {Y : YY} {ρ n : Nat} {kf : KF} {vf : VF}

theorem sh_in {t : Nat} {x : Int32} (hm : kg kf t 14 = -1 ∨ ∃ c, c ≤ 127 ∧ kg kf t 14 = nI c) (h : inI x (nI 0) (kg kf t 14 - nI 1) = true) : ∃ j c, j < c ∧ c ≤ 127 ∧ kg kf t 14 = nI c ∧ x = nI j := by
  rcases hm with z | ⟨c, hc, z⟩
  · exact (inc_m z h).elim
  · obtain ⟨j, hj, e⟩ := inc_n z (by omega) h
    exact ⟨j, c, hj, hc, z, e⟩
theorem sh_lt {t c : Nat} {x : Int32} (hc2 : c ≤ 127) (hc : kg kf t 14 = nI c) (h : x < 0) : inI x (nI 0) (kg kf t 14 - nI 1) = false := Bool.eq_false_iff.mpr (fun q => by
  obtain ⟨i, hi, e⟩ := inc_n hc (by omega) q
  rw [e] at h
  exact absurd h (nI_pos (by omega)))
theorem sh_ge {t c j : Nat} (hc2 : c ≤ 127) (hc : kg kf t 14 = nI c) (hj : j < 2 ^ 31) (h : c ≤ j) : inI (nI j) (nI 0) (kg kf t 14 - nI 1) = false := Bool.eq_false_iff.mpr (fun q => by
  obtain ⟨i, hi, e⟩ := inc_n hc (by omega) q
  have := (nI_eq (by omega) (by omega)).mp e
  omega)
theorem sh_m {t : Nat} {x : Int32} (hc : kg kf t 14 = -1) : inI x (nI 0) (kg kf t 14 - nI 1) = false := Bool.eq_false_iff.mpr (fun q => inc_m hc q)
theorem KQ.shp (h : KQ Z m Y ρ kf vf n) {t c : Nat} (ht : t < n) (hc2 : c ≤ 127) (hc : kg kf t 14 = nI c) : gP m 97 (Y.1 (9 + t)) = some (Y.1 (273 + t)) ∧ gT m (Y.1 (273 + t)) = 14 ∧ gN m (Y.1 (273 + t)) = 127 ∧ ∀ i, i < c → aI m (Y.1 (273 + t)) i = kf (4400 + 128 * t + i) := by
  have hn := h.n2
  have q := (h.2.1.2.2.2.1 t ht).2.2 (by rw [hc]; exact nI_pos' (by omega))
  rw [hc, nI_clamp (by omega)] at q
  rcases (h.1.2.2.2.2.1 t (by omega)).2.2 with y | y
  · rw [q.1] at y
    cases y.1
  · exact ⟨q.1, y.2.2.1, y.2.2.2.1, q.2.2⟩

set_option maxRecDepth 100000 in
set_option maxHeartbeats 4000000 in
theorem k_hasShort1 (hq : KQ Z m Y ρ kf vf n) {t c : Nat} (ht : t < n) (hc2 : c ≤ 127) (hc : kg kf t 14 = nI c) (x : Int32) : Ev G 0 uX4_hasShort [.ref (Y.1 (9 + t)), .int x] m (some (.int (bI (inI x (nI 0) (kg kf t 14 - nI 1))))) m := by
  refine Ev.of (by decide +kernel) (Nat.le_of_ble_eq_true rfl) ?_
  have hn2 := hq.n2
  have hs := hq.shp ht hc2 hc
  refine e_lvs (lv' := [(0, .ref (Y.1 (9 + t))), (1, .int x)]) rfl ?_
  refine e_aload_n 0 dX4_hasShort_0 rfl ?_
  refine e_getP (some (Y.1 (273 + t))) dX4_hasShort_1 fl_X4_61 rfl (hq.Tt (by omega)) (hs.1) ?_
  refine e_ifnull dX4_hasShort_4 ?_
  refine e_iload_n 1 dX4_hasShort_7 rfl ?_
  refine e_if_lt 32 dX4_hasShort_8 (by decide) (fun h1 => ?_) (fun h1 => ?_)
  · skip
    have h1' := Int32.not_le.mpr h1
    refine e_ic (nI 0) dX4_hasShort_32 (by decide) ?_
    exact e_retI dX4_hasShort_33 rfl rfl (bI_f (sh_lt hc2 hc h1)) rfl
  · skip
    have h1' := Int32.not_lt.mp h1
    obtain ⟨j, hj, rfl⟩ := nI_of h1
    refine e_iload_n 1 dX4_hasShort_11 rfl ?_
    refine e_aload_n 0 dX4_hasShort_12 rfl ?_
    refine e_getIv (kg kf t 14) dX4_hasShort_13 fl_X4_58 rfl (hq.Tt (by omega)) (hq.gt (by omega) 14 _ (by decide) rfl) (e_iv (w := nI c) (hc) ?_)
    refine e_icmp_geN 32 dX4_hasShort_16 (by decide) (by omega) (by omega) (fun h2 => ?_) (fun h2 => ?_)
    · skip
      have h2' := Nat.not_lt.mpr h2
      refine e_ic (nI 0) dX4_hasShort_32 (by decide) ?_
      exact e_retI dX4_hasShort_33 rfl rfl (bI_f (sh_ge hc2 hc (by omega) h2)) rfl
    · skip
      have h2' := Nat.not_le.mpr h2
      refine e_iload_n 1 dX4_hasShort_19 rfl ?_
      refine e_aload_n 0 dX4_hasShort_20 rfl ?_
      refine e_getP (some (Y.1 (273 + t))) dX4_hasShort_21 fl_X4_61 rfl (hq.Tt (by omega)) (hs.1) ?_
      refine e_alen (n := nI 127) dX4_hasShort_24 hs.2.1 (by omega) (by rw [hs.2.2.1]; rfl) ?_
      refine e_icmp_geN 32 dX4_hasShort_25 (by decide) (by omega) (by omega) (fun h => absurd h (by omega)) (fun _ => ?_)
      refine e_ic (nI 1) dX4_hasShort_28 (by decide) ?_
      refine e_goto 33 dX4_hasShort_29 (by decide) ?_
      exact e_retI dX4_hasShort_33 rfl rfl (bI_t (by rw [hc, pk_sub (by omega)]; exact inI_of (by omega) (by omega) (by omega))) rfl

set_option maxRecDepth 100000 in
set_option maxHeartbeats 4000000 in
theorem k_hasShort2 (hq : KQ Z m Y ρ kf vf n) {t : Nat} (ht : t < n) (hc : kg kf t 14 = -1) (hs : gP m 97 (Y.1 (9 + t)) = none) (x : Int32) : Ev G 0 uX4_hasShort [.ref (Y.1 (9 + t)), .int x] m (some (.int (bI (inI x (nI 0) (kg kf t 14 - nI 1))))) m := by
  refine Ev.of (by decide +kernel) (Nat.le_of_ble_eq_true rfl) ?_
  have hn2 := hq.n2
  refine e_lvs (lv' := [(0, .ref (Y.1 (9 + t))), (1, .int x)]) rfl ?_
  refine e_aload_n 0 dX4_hasShort_0 rfl ?_
  refine e_getP (none) dX4_hasShort_1 fl_X4_61 rfl (hq.Tt (by omega)) (hs) ?_
  refine e_ifnullN 32 dX4_hasShort_4 (by decide) ?_
  refine e_ic (nI 0) dX4_hasShort_32 (by decide) ?_
  exact e_retI dX4_hasShort_33 rfl rfl (bI_f (sh_m hc)) rfl

set_option maxRecDepth 100000 in
set_option maxHeartbeats 4000000 in
theorem k_hasShort3 (hq : KQ Z m Y ρ kf vf n) {t : Nat} (ht : t < n) (hc : kg kf t 14 = -1) (hs : gP m 97 (Y.1 (9 + t)) = some (Y.1 (273 + t))) (x : Int32) : Ev G 0 uX4_hasShort [.ref (Y.1 (9 + t)), .int x] m (some (.int (bI (inI x (nI 0) (kg kf t 14 - nI 1))))) m := by
  refine Ev.of (by decide +kernel) (Nat.le_of_ble_eq_true rfl) ?_
  have hn2 := hq.n2
  refine e_lvs (lv' := [(0, .ref (Y.1 (9 + t))), (1, .int x)]) rfl ?_
  refine e_aload_n 0 dX4_hasShort_0 rfl ?_
  refine e_getP (some (Y.1 (273 + t))) dX4_hasShort_1 fl_X4_61 rfl (hq.Tt (by omega)) (hs) ?_
  refine e_ifnull dX4_hasShort_4 ?_
  refine e_iload_n 1 dX4_hasShort_7 rfl ?_
  refine e_if_lt 32 dX4_hasShort_8 (by decide) (fun h1 => ?_) (fun h1 => ?_)
  · skip
    have h1' := Int32.not_le.mpr h1
    refine e_ic (nI 0) dX4_hasShort_32 (by decide) ?_
    exact e_retI dX4_hasShort_33 rfl rfl (bI_f (sh_m hc)) rfl
  · skip
    have h1' := Int32.not_lt.mp h1
    refine e_iload_n 1 dX4_hasShort_11 rfl ?_
    refine e_aload_n 0 dX4_hasShort_12 rfl ?_
    refine e_getIv (kg kf t 14) dX4_hasShort_13 fl_X4_58 rfl (hq.Tt (by omega)) (hq.gt (by omega) 14 _ (by decide) rfl) ?_
    refine e_icmp_ge 32 dX4_hasShort_16 (by decide) (fun _ => ?_) (fun h => absurd h (not_not_intro (by rw [hc]; exact Int32.le_trans (by decide) h1')))
    refine e_ic (nI 0) dX4_hasShort_32 (by decide) ?_
    exact e_retI dX4_hasShort_33 rfl rfl (bI_f (sh_m hc)) rfl

theorem k_hasShort (hq : KQ Z m Y ρ kf vf n) {t : Nat} (ht : t < n) (hm : kg kf t 14 = -1 ∨ ∃ c, c ≤ 127 ∧ kg kf t 14 = nI c) (x : Int32) : Ev G 0 uX4_hasShort [.ref (Y.1 (9 + t)), .int x] m (some (.int (bI (inI x (nI 0) (kg kf t 14 - nI 1))))) m := by
  have hn := hq.n2
  rcases hm with hc | ⟨c, hc2, hc⟩
  · rcases (hq.1.2.2.2.2.1 t (by omega)).2.2 with y | y
    · exact k_hasShort2 hq ht hc y.1 x
    · exact k_hasShort3 hq ht hc y.1 x
  · exact k_hasShort1 hq ht hc2 hc x

def smV (kf : KF) (t : Nat) (x : Int32) : Int32 := if inI x (nI 0) (kg kf t 14 - nI 1) then kf (4400 + 128 * t + x.toNatClampNeg) else nI 0

set_option maxRecDepth 100000 in
set_option maxHeartbeats 4000000 in
theorem k_shortAt (hq : KQ Z m Y ρ kf vf n) {t : Nat} (ht : t < n) (hm : kg kf t 14 = -1 ∨ ∃ c, c ≤ 127 ∧ kg kf t 14 = nI c) (x : Int32) : Ev G 1 uX4_shortAt [.ref (Y.1 (9 + t)), .int x] m (some (.int (smV kf t x))) m := by
  refine Ev.of (by decide +kernel) (Nat.le_of_ble_eq_true rfl) ?_
  have hn2 := hq.n2
  refine e_lvs (lv' := [(0, .ref (Y.1 (9 + t))), (1, .int x)]) rfl ?_
  refine e_aload_n 0 dX4_shortAt_0 rfl ?_
  refine e_iload_n 1 dX4_shortAt_1 rfl ?_
  refine e_callV (ci := 4) (st := []) (st1 := [.int (bI (inI x (nI 0) (kg kf t 14 - nI 1)))]) (As := [.int x]) (k_hasShort hq ht hm x) dX4_shortAt_2 (by decide) cm_X4_hasShort lk_X4_113 im_X4_hasShort rfl sel_X4_hasShort (hq.Tt (by omega)) rfl rfl (Nat.le_of_ble_eq_true rfl) rfl ?_
  refine e_if_eqB 17 dX4_shortAt_5 (by decide) (fun b1 => ?_) (fun b1 => ?_)
  · skip
    refine e_ic (nI 0) dX4_shortAt_17 (by decide) ?_
    exact e_retI dX4_shortAt_18 rfl rfl (by rw [smV, b1, if_neg (by decide)]) rfl
  · skip
    obtain ⟨j, c, hj, hc2, hc, rfl⟩ := sh_in hm b1
    have hs := hq.shp ht hc2 hc
    refine e_aload_n 0 dX4_shortAt_8 rfl ?_
    refine e_getP (some (Y.1 (273 + t))) dX4_shortAt_9 fl_X4_61 rfl (hq.Tt (by omega)) (hs.1) ?_
    refine e_iload_n 1 dX4_shortAt_12 rfl ?_
    refine e_saldN (kf (4400 + 128 * t + j)) dX4_shortAt_13 hs.2.1 (by rw [hs.2.2.1]; omega) (by rw [hs.2.2.1]; decide) (hs.2.2.2 j hj) ?_
    refine e_goto 18 dX4_shortAt_14 (by decide) ?_
    exact e_retI dX4_shortAt_18 rfl rfl (by rw [smV, if_pos b1, nI_clamp (by omega)]) rfl

theorem nar_s (z : Int32) : narrow .short (.int z.toInt16.toInt32) = .int z.toInt16.toInt32 := by
  show Value.int (z.toInt16.toInt32).toInt16.toInt32 = _
  rw [Int16.toInt16_toInt32]
theorem nar_b (z : Int32) : narrow .byte (.int z.toInt8.toInt32) = .int z.toInt8.toInt32 := by
  show Value.int (z.toInt8.toInt32).toInt8.toInt32 = _
  rw [Int8.toInt8_toInt32]
def stK (kf : KF) (t : Nat) (x v : Int32) : KF := if inI x (nI 0) (kg kf t 14 - nI 1) then upd kf (4400 + 128 * t + x.toNatClampNeg) v.toInt16.toInt32 else kf

set_option maxRecDepth 100000 in
set_option maxHeartbeats 4000000 in
theorem k_setShort (hq : KQ Z m Y ρ kf vf n) (hρ : 62000 ≤ ρ) {t : Nat} (ht : t < n) (hm : kg kf t 14 = -1 ∨ ∃ c, c ≤ 127 ∧ kg kf t 14 = nI c) (x y : Int32) : EvC G 1 uX4_setShort [.ref (Y.1 (9 + t)), .int x, .int y] m (fun r mm => r = none ∧ KQ Z mm Y ρ (stK kf t x y) vf n) := by
  refine EvC.of (by decide +kernel) (Nat.le_of_ble_eq_true rfl) ?_
  have hn2 := hq.n2
  refine r_go (fun kk => e_lvs (lv' := [(0, .ref (Y.1 (9 + t))), (1, .int x), (2, .int y)]) rfl kk) ?_
  refine r_go (fun kk => e_aload_n 0 dX4_setShort_0 rfl kk) ?_
  refine r_go (fun kk => e_iload_n 1 dX4_setShort_1 rfl kk) ?_
  refine r_go (fun kk => e_callV (ci := 4) (st := []) (st1 := [.int (bI (inI x (nI 0) (kg kf t 14 - nI 1)))]) (As := [.int x]) (k_hasShort hq ht hm x) dX4_setShort_2 (by decide) cm_X4_hasShort lk_X4_113 im_X4_hasShort rfl sel_X4_hasShort (hq.Tt (by omega)) rfl rfl (Nat.le_of_ble_eq_true rfl) rfl kk) ?_
  refine r_bb (fun ka kb => e_if_eqB 16 dX4_setShort_5 (by decide) ka kb) (fun b1 => ?_) (fun b1 => ?_)
  · skip
    exact r_ret (⟨rfl, by rw [stK, b1, if_neg (by decide)]; exact hq⟩) (e_retV dX4_setShort_16 rfl rfl)
  · skip
    obtain ⟨j, c, hj, hc2, hc, rfl⟩ := sh_in hm b1
    have hs := hq.shp ht hc2 hc
    refine r_go (fun kk => e_aload_n 0 dX4_setShort_8 rfl kk) ?_
    refine r_go (fun kk => e_getP (some (Y.1 (273 + t))) dX4_setShort_9 fl_X4_61 rfl (hq.Tt (by omega)) (hs.1) kk) ?_
    refine r_go (fun kk => e_iload_n 1 dX4_setShort_12 rfl kk) ?_
    refine r_go (fun kk => e_iload_n 2 dX4_setShort_13 rfl kk) ?_
    refine r_go (fun kk => e_i2s dX4_setShort_14 kk) ?_
    refine r_go (fun kk => e_sastN (y := y.toInt16.toInt32) _ dX4_setShort_15 hs.2.1 (by rw [hs.2.2.1]; omega) (by rw [hs.2.2.1]; decide) (nar_s _) rfl kk) ?_
    refine r_gen (fun mm => KQ Z mm Y ρ (upd kf (4400 + 128 * t + j) y.toInt16.toInt32) vf n) (hq.sh hρ ht (by rw [hc]; exact nI_pos' (by omega)) (by rw [hc, nI_clamp (by omega)]; exact hj)) (fun m1 hq1 => ?_)
    exact r_ret (⟨rfl, by rw [stK, if_pos (show _ = true from b1), nI_clamp (by omega)]; exact hq1⟩) (e_retV dX4_setShort_16 rfl rfl)

theorem KQ.fls (h : KQ Z m Y ρ kf vf n) (hρ : 62000 ≤ ρ) {t : Nat} {x : Int32} (ht : t < 200) (hs : gP m 97 (Y.1 (9 + t)) = some (Y.1 (273 + t))) (h0 : t < n → ¬ 0 ≤ kg kf t 14) : ∀ i, KQ Z (flM m (Y.1 (273 + t)) x i) Y ρ kf vf n := by
  intro i
  induction i with
  | zero => exact h
  | succ i ih => exact ih.sx hρ ht (by rw [fl_P]; exact hs) h0

set_option maxRecDepth 100000 in
set_option maxHeartbeats 4000000 in
theorem k_makeShorts (hq : KQ Z m Y ρ kf vf n) (hρ : 62000 ≤ ρ) {t b : Nat} (ht : t < n) (hc : kg kf t 14 = -1) (hb : b ≤ 127) : EvC G 1 uX4_makeShorts [.ref (Y.1 (9 + t)), .int (nI b)] m (fun r mm => r = none ∧ ∃ Y2, Sm Y Y2 ∧ KQ Z mm Y2 ρ (lp (fun i k => upd k (4400 + 128 * t + i) (nI 0)) b (ks kf t 14 (nI b))) vf n) := by
  refine EvC.of (by decide +kernel) (Nat.le_of_ble_eq_true rfl) ?_
  have hn2 := hq.n2
  have hneg : ¬ 0 ≤ kg kf t 14 := by rw [hc]; decide
  have C : ∀ (m1 : Mem) (Y1 : YY), Sm Y Y1 → KQ Z m1 Y1 ρ kf vf n → gP m1 97 (Y1.1 (9 + t)) = some (Y1.1 (273 + t)) → EvR G 1 uX4_makeShorts (zz m) (nn m) (fun r mm => r = none ∧ ∃ Y2, Sm Y Y2 ∧ KQ Z mm Y2 ρ (lp (fun i k => upd k (4400 + 128 * t + i) (nI 0)) b (ks kf t 14 (nI b))) vf n) 15 [(0, .ref (Y1.1 (9 + t))), (1, .int (nI b))] [] m1 := by
    intro m1 Y1 hS hq1 hp1
    have hT2 : gT m1 (Y1.1 (273 + t)) = 14 := by
      rcases (hq1.1.2.2.2.2.1 t (by omega)).2.2 with y | y
      · rw [hp1] at y
        cases y.1
      · exact y.2.2.1
    have hN2 : gN m1 (Y1.1 (273 + t)) = 127 := by
      rcases (hq1.1.2.2.2.2.1 t (by omega)).2.2 with y | y
      · rw [hp1] at y
        cases y.1
      · exact y.2.2.2.1
    refine r_go (fun kk => e_aload_n 0 dX4_makeShorts_15 rfl kk) ?_
    refine r_go (fun kk => e_getP (some (Y1.1 (273 + t))) dX4_makeShorts_16 fl_X4_61 rfl (hq1.Tt (by omega)) (hp1) kk) ?_
    refine r_go (fun kk => e_ic (nI 0) dX4_makeShorts_19 (by decide) kk) ?_
    refine r_go (fun kk => e_callS (st := []) (st1 := []) (As := [.ref (Y1.1 (273 + t)), .int (nI 0)]) (a_fillS (G := G) hT2 (by rw [hN2]; decide) rfl) dX4_makeShorts_20 (by decide) cm_J7_fill_fb410 lk_X4_107 sm_J7_fill_fb410 rfl rfl (Nat.le_of_ble_eq_true rfl) rfl kk) ?_
    rw [hN2]
    refine r_gen (fun mm => KQ Z mm Y1 ρ kf vf n ∧ (∀ i, i < 127 → aI mm (Y1.1 (273 + t)) i = nI 0) ∧ gP mm 97 (Y1.1 (9 + t)) = some (Y1.1 (273 + t))) ⟨hq1.fls hρ (by omega) hp1 (fun _ => hneg) 127, fl_at _ _ _, by rw [fl_P]; exact hp1⟩ (fun m2 hx2 => ?_)
    obtain ⟨hq2, hz2, hp2⟩ := hx2
    refine r_go (fun kk => e_aload_n 0 dX4_makeShorts_23 rfl kk) ?_
    refine r_go (fun kk => e_iload_n 1 dX4_makeShorts_24 rfl kk) ?_
    refine r_go (fun kk => e_putI (ci := 4) (k := 16) dX4_makeShorts_25 fl_X4_58 rfl (fun q h => by cases h; rfl) ⟨rfl, rfl⟩ (hq2.Tt (by omega)) kk) ?_
    refine r_gen (fun mm => KQ Z mm Y1 ρ (lp (fun i k => upd k (4400 + 128 * t + i) (nI 0)) b (ks kf t 14 (nI b))) vf n) (hq2.sc hρ ht (fun _ => ⟨hp2, by rw [nI_clamp (by omega)]; exact hb, fun i hi => ?_⟩) (fun j h1 h2 => ?_) ?_) (fun m3 hq3 => ?_)
    · rw [nI_clamp (by omega)] at hi
      rw [lpS_in _ _ _ b hi]
      exact hz2 i (by omega)
    · rw [lpS_at _ _ _ b (by omega) (by omega)]
      exact ks_at _ _ _ _ _ h1
    · unfold kg
      rw [lpS_at _ _ _ b (by omega) (by omega)]
      exact upd_eq _ _ _
    exact r_ret ⟨rfl, Y1, hS, hq3⟩ (e_retV dX4_makeShorts_28 rfl rfl)
  refine r_go (fun kk => e_lvs (lv' := [(0, .ref (Y.1 (9 + t))), (1, .int (nI b))]) rfl kk) ?_
  rcases (hq.1.2.2.2.2.1 t (by omega)).2.2 with y | y
  · skip
    refine r_go (fun kk => e_aload_n 0 dX4_makeShorts_0 rfl kk) ?_
    refine r_go (fun kk => e_getP (none) dX4_makeShorts_1 fl_X4_61 rfl (hq.Tt (by omega)) (y.1) kk) ?_
    refine r_go (fun kk => e_ifnonnullN dX4_makeShorts_4 kk) ?_
    refine r_go (fun kk => e_aload_n 0 dX4_makeShorts_7 rfl kk) ?_
    refine r_go (fun kk => e_bipush (v := nI 127) dX4_makeShorts_8 (by decide) kk) ?_
    refine r_go (fun kk => e_newa (t := 14) (N := 127) dX4_makeShorts_10 ac_short ⟨by omega, rfl⟩ (by decide) rfl (by omega) kk) ?_
    refine r_go (fun kk => e_putP (ci := 4) (k := 17) (some (zz m)) dX4_makeShorts_12 fl_X4_61 rfl (fun q h => by cases h; rfl) ⟨rfl, rfl⟩ rfl (show gT (nw m 14 127) (Y.1 (9 + t)) = 5 from (vu_ne _ _ (Nat.ne_of_lt (hq.1.1 (9 + t) (by omega)).2.2)).trans (hq.Tt (by omega))) kk) ?_
    have hg := hq.grow (r0 := 273 + t) (rw := 9 + t) (fw := 97) (ty := 14) (N := 127) (g := aI (nw m 14 127) (zz m)) (by omega) (Or.inr (Or.inr ⟨t, by omega, rfl, rfl, rfl, rfl, rfl, y.1⟩))
    refine r_gen (fun mm => ∃ Y1, Sm Y Y1 ∧ KQ Z mm Y1 ρ kf vf n ∧ gP mm 97 (Y1.1 (9 + t)) = some (Y1.1 (273 + t))) ⟨_, hg.2, by rw [gwM, sRI_self] at hg; exact hg.1, by rw [hg.2 (9 + t) (by omega), gY_e]; exact u2_eq (gP (nw m 14 127)) 97 (Y.1 (9 + t)) (some (zz m))⟩ (fun m1 hx => ?_)
    obtain ⟨Y1, hS, hq1, hp1⟩ := hx
    refine r_go (fun kk => e_lvs (lv' := [(0, .ref (Y1.1 (9 + t))), (1, .int (nI b))]) (by rw [hS (9 + t) (by omega)]) kk) ?_
    exact C m1 Y1 hS hq1 hp1
  · skip
    refine r_go (fun kk => e_aload_n 0 dX4_makeShorts_0 rfl kk) ?_
    refine r_go (fun kk => e_getP (some (Y.1 (273 + t))) dX4_makeShorts_1 fl_X4_61 rfl (hq.Tt (by omega)) (y.1) kk) ?_
    refine r_go (fun kk => e_ifnonnull 15 dX4_makeShorts_4 (by decide) kk) ?_
    exact C m Y (Sm.rf Y) hq y.1

end Class4
