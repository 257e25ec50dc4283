/-! the class: small methods -/
section Class1
variable {G : GG} {Z : Mem × YY} {m : Mem} {Y : YY} {ρ n : Nat} {kf : KF} {vf : VF}

set_option maxRecDepth 100000 in
set_option maxHeartbeats 4000000 in
theorem k_hasDeadline (hq : KQ Z m Y ρ kf vf n) {t : Nat} (ht : t < n) : Ev G 0 uX4_hasDeadline [.ref (Y.1 (9 + t))] m (some (.int (bI (isDue kf t)))) m := by
  refine Ev.of (by decide +kernel) (Nat.le_of_ble_eq_true rfl) ?_
  have hn2 := hq.n2
  refine e_lvs (lv' := [(0, .ref (Y.1 (9 + t)))]) rfl ?_
  refine e_aload_n 0 dX4_hasDeadline_0 rfl ?_
  refine e_getIv (kg kf t 0) dX4_hasDeadline_1 fl_X4_9 rfl (hq.Tt (by omega)) (hq.gt (by omega) 0 _ (by decide) rfl) ?_
  refine e_ic (nI 1) dX4_hasDeadline_4 (by decide) ?_
  refine e_iv (w := 1) rfl ?_
  refine e_icmp_eq 16 dX4_hasDeadline_5 (by decide) (fun h1 => ?_) (fun h1 => ?_)
  · skip
    refine e_ic (nI 1) dX4_hasDeadline_16 (by decide) ?_
    refine e_goto 21 dX4_hasDeadline_17 (by decide) ?_
    exact e_retI dX4_hasDeadline_21 rfl rfl (bI_t (by first | (simp [isDue, *]; done) | (simp_all [isDue]; done))) rfl
  · skip
    refine e_aload_n 0 dX4_hasDeadline_8 rfl ?_
    refine e_getIv (kg kf t 0) dX4_hasDeadline_9 fl_X4_9 rfl (hq.Tt (by omega)) (hq.gt (by omega) 0 _ (by decide) rfl) ?_
    refine e_ic (nI 2) dX4_hasDeadline_12 (by decide) ?_
    refine e_iv (w := 2) rfl ?_
    refine e_icmp_ne 20 dX4_hasDeadline_13 (by decide) (fun h2 => ?_) (fun h2 => ?_)
    · skip
      refine e_ic (nI 0) dX4_hasDeadline_20 (by decide) ?_
      exact e_retI dX4_hasDeadline_21 rfl rfl (bI_f (by first | (simp [isDue, *]; done) | (simp_all [isDue]; done))) rfl
    · skip
      refine e_ic (nI 1) dX4_hasDeadline_16 (by decide) ?_
      refine e_goto 21 dX4_hasDeadline_17 (by decide) ?_
      exact e_retI dX4_hasDeadline_21 rfl rfl (bI_t (by first | (simp [isDue, *]; done) | (simp_all [isDue]; done))) rfl

set_option maxRecDepth 100000 in
set_option maxHeartbeats 4000000 in
theorem k_isOf (hq : KQ Z m Y ρ kf vf n) {t : Nat} (ht : t < n) (x : Int32) : Ev G 0 uX4_isOf [.ref (Y.1 (9 + t)), .int x] m (some (.int (bI (isOfB (kg kf t 0) x)))) m := by
  refine Ev.of (by decide +kernel) (Nat.le_of_ble_eq_true rfl) ?_
  have hn2 := hq.n2
  refine e_lvs (lv' := [(0, .ref (Y.1 (9 + t))), (1, .int x)]) rfl ?_
  refine e_iload_n 1 dX4_isOf_0 rfl ?_
  refine e_if_eq 38 dX4_isOf_1 (by decide) (fun h1 => ?_) (fun h1 => ?_)
  · skip
    refine e_ic (nI 1) dX4_isOf_38 (by decide) ?_
    refine e_goto 43 dX4_isOf_39 (by decide) ?_
    exact e_retI dX4_isOf_43 rfl rfl (bI_t (by first | (simp [isOfB, *]; done) | (simp_all [isOfB]; done))) rfl
  · skip
    refine e_iload_n 1 dX4_isOf_4 rfl ?_
    refine e_aload_n 0 dX4_isOf_5 rfl ?_
    refine e_getIv (kg kf t 0) dX4_isOf_6 fl_X4_9 rfl (hq.Tt (by omega)) (hq.gt (by omega) 0 _ (by decide) rfl) ?_
    refine e_icmp_eq 38 dX4_isOf_9 (by decide) (fun h2 => ?_) (fun h2 => ?_)
    · skip
      refine e_ic (nI 1) dX4_isOf_38 (by decide) ?_
      refine e_goto 43 dX4_isOf_39 (by decide) ?_
      exact e_retI dX4_isOf_43 rfl rfl (bI_t (by first | (simp [isOfB, *]; done) | (simp_all [isOfB]; done))) rfl
    · skip
      refine e_iload_n 1 dX4_isOf_12 rfl ?_
      refine e_ic (nI 1) dX4_isOf_13 (by decide) ?_
      refine e_iv (w := 1) rfl ?_
      refine e_icmp_ne 25 dX4_isOf_14 (by decide) (fun h3 => ?_) (fun h3 => ?_)
      · skip
        refine e_iload_n 1 dX4_isOf_25 rfl ?_
        refine e_ic (nI 3) dX4_isOf_26 (by decide) ?_
        refine e_iv (w := 3) rfl ?_
        refine e_icmp_ne 42 dX4_isOf_27 (by decide) (fun h4 => ?_) (fun h4 => ?_)
        · skip
          refine e_ic (nI 0) dX4_isOf_42 (by decide) ?_
          exact e_retI dX4_isOf_43 rfl rfl (bI_f (by first | (simp [isOfB, *]; done) | (simp_all [isOfB]; done))) rfl
        · skip
          refine e_aload_n 0 dX4_isOf_30 rfl ?_
          refine e_getIv (kg kf t 0) dX4_isOf_31 fl_X4_9 rfl (hq.Tt (by omega)) (hq.gt (by omega) 0 _ (by decide) rfl) ?_
          refine e_ic (nI 4) dX4_isOf_34 (by decide) ?_
          refine e_iv (w := 4) rfl ?_
          refine e_icmp_ne 42 dX4_isOf_35 (by decide) (fun h5 => ?_) (fun h5 => ?_)
          · skip
            refine e_ic (nI 0) dX4_isOf_42 (by decide) ?_
            exact e_retI dX4_isOf_43 rfl rfl (bI_f (by first | (simp [isOfB, *]; done) | (simp_all [isOfB]; done))) rfl
          · skip
            refine e_ic (nI 1) dX4_isOf_38 (by decide) ?_
            refine e_goto 43 dX4_isOf_39 (by decide) ?_
            exact e_retI dX4_isOf_43 rfl rfl (bI_t (by first | (simp [isOfB, *]; done) | (simp_all [isOfB]; done))) rfl
      · skip
        refine e_aload_n 0 dX4_isOf_17 rfl ?_
        refine e_getIv (kg kf t 0) dX4_isOf_18 fl_X4_9 rfl (hq.Tt (by omega)) (hq.gt (by omega) 0 _ (by decide) rfl) ?_
        refine e_ic (nI 2) dX4_isOf_21 (by decide) ?_
        refine e_iv (w := 2) rfl ?_
        refine e_icmp_eq 38 dX4_isOf_22 (by decide) (fun h6 => ?_) (fun h6 => ?_)
        · skip
          refine e_ic (nI 1) dX4_isOf_38 (by decide) ?_
          refine e_goto 43 dX4_isOf_39 (by decide) ?_
          exact e_retI dX4_isOf_43 rfl rfl (bI_t (by first | (simp [isOfB, *]; done) | (simp_all [isOfB]; done))) rfl
        · skip
          refine e_iload_n 1 dX4_isOf_25 rfl ?_
          refine e_ic (nI 3) dX4_isOf_26 (by decide) ?_
          refine e_iv (w := 3) rfl ?_
          refine e_icmp_ne 42 dX4_isOf_27 (by decide) (fun _ => ?_) (fun h => absurd h (by rw [h3]; decide))
          refine e_ic (nI 0) dX4_isOf_42 (by decide) ?_
          exact e_retI dX4_isOf_43 rfl rfl (bI_f (by first | (simp [isOfB, *]; done) | (simp_all [isOfB]; done))) rfl

def rkA (kf : KF) (vf : VF) (t : Nat) : Int64 := if 0 < kg kf t 13 then ((kg kf t 12).toInt64 <<< ((nI 8).toInt64 &&& 63)) + lN t else (281474976710656 + ((vf t) <<< ((nI 8).toInt64 &&& 63))) + lN t

set_option maxRecDepth 100000 in
set_option maxHeartbeats 4000000 in
theorem k_rank (hq : KQ Z m Y ρ kf vf n) {t : Nat} (ht : t < n) : Ev G 0 uX4_rank [.ref (Y.1 (9 + t))] m (some (.long (rkA kf vf t))) m := by
  refine Ev.of (by decide +kernel) (Nat.le_of_ble_eq_true rfl) ?_
  have hn2 := hq.n2
  refine e_lvs (lv' := [(0, .ref (Y.1 (9 + t)))]) rfl ?_
  refine e_aload_n 0 dX4_rank_0 rfl ?_
  refine e_getIv (kg kf t 13) dX4_rank_1 fl_X4_55 rfl (hq.Tt (by omega)) (hq.gt (by omega) 13 _ (by decide) rfl) ?_
  refine e_if_le 22 dX4_rank_4 (by decide) (fun h1 => ?_) (fun h1 => ?_)
  · skip
    have h1' := Int32.not_lt.mpr h1
    refine e_ldc2 dX4_rank_22 cs_X4_87 ?_
    refine e_aload_n 0 dX4_rank_25 rfl ?_
    refine e_getLv (vf t) dX4_rank_26 fl_X4_21 rfl (hq.Tt (by omega)) (hq.gv (by omega)) ?_
    refine e_bipush (v := nI 8) dX4_rank_29 (by decide) ?_
    refine e_lshl dX4_rank_31 ?_
    refine e_ladd dX4_rank_32 ?_
    refine e_aload_n 0 dX4_rank_33 rfl ?_
    refine e_getIv (nI t) dX4_rank_34 fl_X4_68 rfl (hq.Tt (by omega)) (hq.gno (by omega)) ?_
    refine e_i2lN dX4_rank_37 (by omega) ?_
    refine e_ladd dX4_rank_38 ?_
    exact e_retL dX4_rank_39 rfl (by rw [rkA, if_neg h1']) rfl
  · skip
    have h1' := Int32.not_le.mp h1
    refine e_aload_n 0 dX4_rank_7 rfl ?_
    refine e_getIv (kg kf t 12) dX4_rank_8 fl_X4_52 rfl (hq.Tt (by omega)) (hq.gt (by omega) 12 _ (by decide) rfl) ?_
    refine e_i2l dX4_rank_11 ?_
    refine e_bipush (v := nI 8) dX4_rank_12 (by decide) ?_
    refine e_lshl dX4_rank_14 ?_
    refine e_aload_n 0 dX4_rank_15 rfl ?_
    refine e_getIv (nI t) dX4_rank_16 fl_X4_68 rfl (hq.Tt (by omega)) (hq.gno (by omega)) ?_
    refine e_i2lN dX4_rank_19 (by omega) ?_
    refine e_ladd dX4_rank_20 ?_
    exact e_retL dX4_rank_21 rfl (by rw [rkA, if_pos h1']) rfl

set_option maxRecDepth 100000 in
set_option maxHeartbeats 4000000 in
theorem k_wake (hq : KQ Z m Y ρ kf vf n) (hρ : 62000 ≤ ρ) {t : Nat} (ht : t < n) : EvC G 0 uX4_wake [.ref (Y.1 (9 + t))] m (fun r mm => r = none ∧ KQ Z mm Y ρ (rdy kf t) vf n) := by
  refine EvC.of (by decide +kernel) (Nat.le_of_ble_eq_true rfl) ?_
  have hn2 := hq.n2
  refine r_go (fun kk => e_lvs (lv' := [(0, .ref (Y.1 (9 + t)))]) rfl kk) ?_
  refine r_go (fun kk => e_aload_n 0 dX4_wake_0 rfl kk) ?_
  refine r_go (fun kk => e_ic (nI 0) dX4_wake_1 (by decide) kk) ?_
  refine r_go (fun kk => e_putI (ci := 4) (k := 8) dX4_wake_2 fl_X4_34 rfl (fun q h => by cases h; rfl) ⟨rfl, rfl⟩ (hq.Tt (by omega)) kk) ?_
  refine r_gen (fun mm => KQ Z mm Y ρ (ks kf t 6 (nI 0)) vf n) (hq.t hρ (by omega) (by decide) rfl) (fun m1 hq1 => ?_)
  refine r_go (fun kk => e_aload_n 0 dX4_wake_5 rfl kk) ?_
  refine r_go (fun kk => e_ic ((-1)) dX4_wake_6 (by decide) kk) ?_
  refine r_go (fun kk => e_putI (ci := 4) (k := 9) dX4_wake_7 fl_X4_37 rfl (fun q h => by cases h; rfl) ⟨rfl, rfl⟩ (hq1.Tt (by omega)) kk) ?_
  refine r_gen (fun mm => KQ Z mm Y ρ (ks (ks kf t 6 (nI 0)) t 7 (-1)) vf n) (hq1.t hρ (by omega) (by decide) rfl) (fun m2 hq2 => ?_)
  refine r_go (fun kk => e_aload_n 0 dX4_wake_10 rfl kk) ?_
  refine r_go (fun kk => e_ic ((-1)) dX4_wake_11 (by decide) kk) ?_
  refine r_go (fun kk => e_putI (ci := 4) (k := 10) dX4_wake_12 fl_X4_40 rfl (fun q h => by cases h; rfl) ⟨rfl, rfl⟩ (hq2.Tt (by omega)) kk) ?_
  refine r_gen (fun mm => KQ Z mm Y ρ (ks (ks (ks kf t 6 (nI 0)) t 7 (-1)) t 8 (-1)) vf n) (hq2.t hρ (by omega) (by decide) rfl) (fun m3 hq3 => ?_)
  exact r_ret (⟨rfl, hq3⟩) (e_retV dX4_wake_15 rfl rfl)

def shrK (kf : KF) (t : Nat) (s : Int32) : KF := ks (ks kf t 2 s) t 3 (mnI (kg (ks kf t 2 s) t 3) (s - nI 1))

set_option maxRecDepth 100000 in
set_option maxHeartbeats 4000000 in
theorem k_changeShare (hq : KQ Z m Y ρ kf vf n) (hρ : 62000 ≤ ρ) {t : Nat} (ht : t < n) (s : Int32) : EvC G 1 uX4_changeShare [.ref (Y.1 (9 + t)), .int s] m (fun r mm => r = some (.int (kg kf t 2)) ∧ KQ Z mm Y ρ (shrK kf t s) vf n) := by
  refine EvC.of (by decide +kernel) (Nat.le_of_ble_eq_true rfl) ?_
  have hn2 := hq.n2
  refine r_go (fun kk => e_lvs (lv' := [(0, .ref (Y.1 (9 + t))), (1, .int s)]) rfl kk) ?_
  refine r_go (fun kk => e_aload_n 0 dX4_changeShare_0 rfl kk) ?_
  refine r_go (fun kk => e_getIv (kg kf t 2) dX4_changeShare_1 fl_X4_18 rfl (hq.Tt (by omega)) (hq.gt (by omega) 2 _ (by decide) rfl) kk) ?_
  refine r_go (fun kk => e_istore_n (lv' := [(2, .int (kg kf t 2)), (0, .ref (Y.1 (9 + t))), (1, .int s)]) dX4_changeShare_4 (by decide) rfl kk) ?_
  refine r_go (fun kk => e_aload_n 1 dX4_changeShare_5 rfl kk) ?_
  refine r_go (fun kk => e_iload_n 2 dX4_changeShare_6 rfl kk) ?_
  refine r_go (fun kk => e_putI (ci := 4) (k := 3) dX4_changeShare_7 fl_X4_18 rfl (fun q h => by cases h; rfl) ⟨rfl, rfl⟩ (hq.Tt (by omega)) kk) ?_
  refine r_gen (fun mm => KQ Z mm Y ρ (ks kf t 2 s) vf n) (hq.t hρ (by omega) (by decide) rfl) (fun m1 hq1 => ?_)
  refine r_go (fun kk => e_aload_n 1 dX4_changeShare_10 rfl kk) ?_
  refine r_go (fun kk => e_aload_n 1 dX4_changeShare_11 rfl kk) ?_
  refine r_go (fun kk => e_getIv (kg (ks kf t 2 s) t 3) dX4_changeShare_12 fl_X4_25 rfl (hq1.Tt (by omega)) (hq1.gt (by omega) 3 _ (by decide) rfl) kk) ?_
  refine r_go (fun kk => e_iload_n 2 dX4_changeShare_15 rfl kk) ?_
  refine r_go (fun kk => e_ic (nI 1) dX4_changeShare_16 (by decide) kk) ?_
  refine r_go (fun kk => e_isub dX4_changeShare_17 kk) ?_
  refine r_go (fun kk => e_jmin dX4_changeShare_18 lkm_X4_89 (Nat.le_of_ble_eq_true rfl) kk) ?_
  refine r_go (fun kk => e_putI (ci := 4) (k := 5) dX4_changeShare_21 fl_X4_25 rfl (fun q h => by cases h; rfl) ⟨rfl, rfl⟩ (hq1.Tt (by omega)) kk) ?_
  refine r_gen (fun mm => KQ Z mm Y ρ (ks (ks kf t 2 s) t 3 (mnI (kg (ks kf t 2 s) t 3) (s - (nI 1)))) vf n) (hq1.t hρ (by omega) (by decide) rfl) (fun m2 hq2 => ?_)
  refine r_go (fun kk => e_iload_n 0 dX4_changeShare_24 rfl kk) ?_
  exact r_ret (⟨rfl, hq2⟩) (e_retI dX4_changeShare_25 rfl rfl rfl)

def pyK (kf : KF) (t : Nat) : KF := ks kf t 3 ((nI 1000 + kg kf t 3) - (nI 1000 + kg kf t 3) / kg kf t 2 * kg kf t 2)

set_option maxRecDepth 100000 in
set_option maxHeartbeats 4000000 in
theorem k_payOnce (hq : KQ Z m Y ρ kf vf n) (hρ : 62000 ≤ ρ) {t : Nat} (ht : t < n) (hs : 0 < kg kf t 2) : EvC G 0 uX4_payOnce [.ref (Y.1 (9 + t))] m (fun r mm => r = none ∧ KQ Z mm Y ρ (pyK kf t) (payV kf vf t) n) := by
  refine EvC.of (by decide +kernel) (Nat.le_of_ble_eq_true rfl) ?_
  have hn2 := hq.n2
  refine r_go (fun kk => e_lvs (lv' := [(0, .ref (Y.1 (9 + t)))]) rfl kk) ?_
  refine r_go (fun kk => e_aload_n 0 dX4_payOnce_0 rfl kk) ?_
  refine r_go (fun kk => e_getIv (kg kf t 2) dX4_payOnce_1 fl_X4_18 rfl (hq.Tt (by omega)) (hq.gt (by omega) 2 _ (by decide) rfl) kk) ?_
  refine r_go (fun kk => e_if_le 42 dX4_payOnce_4 (by decide) (fun h => absurd h (Int32.not_le.mpr hs)) (fun _ => kk)) ?_
  refine r_go (fun kk => e_sipush (v := nI 1000) dX4_payOnce_7 (by decide) kk) ?_
  refine r_go (fun kk => e_aload_n 0 dX4_payOnce_10 rfl kk) ?_
  refine r_go (fun kk => e_getIv (kg kf t 3) dX4_payOnce_11 fl_X4_25 rfl (hq.Tt (by omega)) (hq.gt (by omega) 3 _ (by decide) rfl) kk) ?_
  refine r_go (fun kk => e_iadd dX4_payOnce_14 kk) ?_
  refine r_go (fun kk => e_istore_n (lv' := [(1, .int ((nI 1000) + (kg kf t 3))), (0, .ref (Y.1 (9 + t)))]) dX4_payOnce_15 (by decide) rfl kk) ?_
  refine r_go (fun kk => e_aload_n 1 dX4_payOnce_16 rfl kk) ?_
  refine r_go (fun kk => e_dup dX4_payOnce_17 rfl kk) ?_
  refine r_go (fun kk => e_getLv (vf t) dX4_payOnce_18 fl_X4_21 rfl (hq.Tt (by omega)) (hq.gv (by omega)) kk) ?_
  refine r_go (fun kk => e_iload_n 0 dX4_payOnce_21 rfl kk) ?_
  refine r_go (fun kk => e_aload_n 1 dX4_payOnce_22 rfl kk) ?_
  refine r_go (fun kk => e_getIv (kg kf t 2) dX4_payOnce_23 fl_X4_18 rfl (hq.Tt (by omega)) (hq.gt (by omega) 2 _ (by decide) rfl) kk) ?_
  refine r_go (fun kk => e_idiv dX4_payOnce_26 (fun q => absurd hs (by rw [q]; decide)) kk) ?_
  refine r_go (fun kk => e_i2l dX4_payOnce_27 kk) ?_
  refine r_go (fun kk => e_ladd dX4_payOnce_28 kk) ?_
  refine r_go (fun kk => e_putL (ci := 4) (k := 4) dX4_payOnce_29 fl_X4_21 rfl (fun q h => by cases h; rfl) ⟨rfl, rfl⟩ (hq.Tt (by omega)) kk) ?_
  refine r_gen (fun mm => KQ Z mm Y ρ kf (vp_updL vf t ((vf t) + ((((nI 1000) + (kg kf t 3)) / (kg kf t 2)).toInt64))) n) (hq.v (by omega)) (fun m1 hq1 => ?_)
  refine r_go (fun kk => e_aload_n 1 dX4_payOnce_32 rfl kk) ?_
  refine r_go (fun kk => e_iload_n 0 dX4_payOnce_33 rfl kk) ?_
  refine r_go (fun kk => e_aload_n 1 dX4_payOnce_34 rfl kk) ?_
  refine r_go (fun kk => e_getIv (kg kf t 2) dX4_payOnce_35 fl_X4_18 rfl (hq1.Tt (by omega)) (hq1.gt (by omega) 2 _ (by decide) rfl) kk) ?_
  refine r_go (fun kk => e_irem dX4_payOnce_38 (fun q => absurd hs (by rw [q]; decide)) kk) ?_
  refine r_go (fun kk => e_putI (ci := 4) (k := 5) dX4_payOnce_39 fl_X4_25 rfl (fun q h => by cases h; rfl) ⟨rfl, rfl⟩ (hq1.Tt (by omega)) kk) ?_
  refine r_gen (fun mm => KQ Z mm Y ρ (ks kf t 3 (((nI 1000) + (kg kf t 3)) - ((nI 1000) + (kg kf t 3)) / (kg kf t 2) * (kg kf t 2))) (vp_updL vf t ((vf t) + ((((nI 1000) + (kg kf t 3)) / (kg kf t 2)).toInt64))) n) (hq1.t hρ (by omega) (by decide) rfl) (fun m2 hq2 => ?_)
  exact r_ret (⟨rfl, hq2⟩) (e_retV dX4_payOnce_42 rfl rfl)

def spK (kf : KF) (t : Nat) (p b c : Int32) : KF := ks (ks (ks (ks kf t 10 p) t 11 b) t 12 (c + p)) t 13 b

set_option maxRecDepth 100000 in
set_option maxHeartbeats 4000000 in
theorem k_startPeriod (hq : KQ Z m Y ρ kf vf n) (hρ : 62000 ≤ ρ) {t : Nat} (ht : t < n) (p b c : Int32) : EvC G 0 uX4_startPeriod [.ref (Y.1 (9 + t)), .int p, .int b, .int c] m (fun r mm => r = none ∧ KQ Z mm Y ρ (spK kf t p b c) vf n) := by
  refine EvC.of (by decide +kernel) (Nat.le_of_ble_eq_true rfl) ?_
  have hn2 := hq.n2
  refine r_go (fun kk => e_lvs (lv' := [(0, .ref (Y.1 (9 + t))), (1, .int p), (2, .int b), (3, .int c)]) rfl kk) ?_
  refine r_go (fun kk => e_aload_n 0 dX4_startPeriod_0 rfl kk) ?_
  refine r_go (fun kk => e_iload_n 1 dX4_startPeriod_1 rfl kk) ?_
  refine r_go (fun kk => e_putI (ci := 4) (k := 12) dX4_startPeriod_2 fl_X4_46 rfl (fun q h => by cases h; rfl) ⟨rfl, rfl⟩ (hq.Tt (by omega)) kk) ?_
  refine r_gen (fun mm => KQ Z mm Y ρ (ks kf t 10 p) vf n) (hq.t hρ (by omega) (by decide) rfl) (fun m1 hq1 => ?_)
  refine r_go (fun kk => e_aload_n 0 dX4_startPeriod_5 rfl kk) ?_
  refine r_go (fun kk => e_iload_n 2 dX4_startPeriod_6 rfl kk) ?_
  refine r_go (fun kk => e_putI (ci := 4) (k := 13) dX4_startPeriod_7 fl_X4_49 rfl (fun q h => by cases h; rfl) ⟨rfl, rfl⟩ (hq1.Tt (by omega)) kk) ?_
  refine r_gen (fun mm => KQ Z mm Y ρ (ks (ks kf t 10 p) t 11 b) vf n) (hq1.t hρ (by omega) (by decide) rfl) (fun m2 hq2 => ?_)
  refine r_go (fun kk => e_aload_n 0 dX4_startPeriod_10 rfl kk) ?_
  refine r_go (fun kk => e_iload_n 3 dX4_startPeriod_11 rfl kk) ?_
  refine r_go (fun kk => e_iload_n 1 dX4_startPeriod_12 rfl kk) ?_
  refine r_go (fun kk => e_iadd dX4_startPeriod_13 kk) ?_
  refine r_go (fun kk => e_putI (ci := 4) (k := 14) dX4_startPeriod_14 fl_X4_52 rfl (fun q h => by cases h; rfl) ⟨rfl, rfl⟩ (hq2.Tt (by omega)) kk) ?_
  refine r_gen (fun mm => KQ Z mm Y ρ (ks (ks (ks kf t 10 p) t 11 b) t 12 (c + p)) vf n) (hq2.t hρ (by omega) (by decide) rfl) (fun m3 hq3 => ?_)
  refine r_go (fun kk => e_aload_n 0 dX4_startPeriod_17 rfl kk) ?_
  refine r_go (fun kk => e_iload_n 2 dX4_startPeriod_18 rfl kk) ?_
  refine r_go (fun kk => e_putI (ci := 4) (k := 15) dX4_startPeriod_19 fl_X4_55 rfl (fun q h => by cases h; rfl) ⟨rfl, rfl⟩ (hq3.Tt (by omega)) kk) ?_
  refine r_gen (fun mm => KQ Z mm Y ρ (ks (ks (ks (ks kf t 10 p) t 11 b) t 12 (c + p)) t 13 b) vf n) (hq3.t hρ (by omega) (by decide) rfl) (fun m4 hq4 => ?_)
  exact r_ret (⟨rfl, hq4⟩) (e_retV dX4_startPeriod_22 rfl rfl)

set_option maxRecDepth 100000 in
set_option maxHeartbeats 4000000 in
theorem k_taskAt (hq : KQ Z m Y ρ kf vf n) {j : Nat} (hj : j < n) : Ev G 0 uX0_taskAt [.ref (Y.1 0), .int (nI j)] m (some (.ref (Y.1 (9 + j)))) m := by
  refine Ev.of (by decide +kernel) (Nat.le_of_ble_eq_true rfl) ?_
  have hn2 := hq.n2
  refine e_lvs (lv' := [(0, .ref (Y.1 0)), (1, .int (nI j))]) rfl ?_
  refine e_iload_n 1 dX0_taskAt_0 rfl ?_
  refine e_if_lt 21 dX0_taskAt_1 (by decide) (fun h => absurd h (nI_pos (by omega))) (fun _ => ?_)
  refine e_iload_n 1 dX0_taskAt_4 rfl ?_
  refine e_aload_n 0 dX0_taskAt_5 rfl ?_
  refine e_getIv (nI n) dX0_taskAt_6 fl_X0_43 rfl (hq.T 0 (by decide)) hq.n7 ?_
  refine e_icmp_geN 21 dX0_taskAt_9 (by decide) (by omega) (by omega) (fun h => absurd h (by omega)) (fun _ => ?_)
  refine e_aload_n 0 dX0_taskAt_12 rfl ?_
  refine e_getP (some (Y.1 1)) dX0_taskAt_13 fl_X0_11 rfl (hq.T 0 (by decide)) (hq.1.2.2.1.1) ?_
  refine e_iload_n 1 dX0_taskAt_16 rfl ?_
  refine e_aaldN (some (Y.1 (9 + j))) dX0_taskAt_17 (hq.T 1 (by decide)) (Or.inr rfl) (by rw [hq.1.2.1.1]; exact (by omega)) (by rw [hq.1.2.1.1]; decide) (hq.pt (by omega)) ?_
  refine e_goto 22 dX0_taskAt_18 (by decide) ?_
  exact e_retA (v := some (Y.1 (9 + j))) dX0_taskAt_22 rfl (by simp) rfl rfl

set_option maxRecDepth 100000 in
set_option maxHeartbeats 4000000 in
theorem k_taskAtN (hq : KQ Z m Y ρ kf vf n) {x : Int32} (hx : tIn kf x = false) : Ev G 0 uX0_taskAt [.ref (Y.1 0), .int x] m (some .null) m := by
  refine Ev.of (by decide +kernel) (Nat.le_of_ble_eq_true rfl) ?_
  have hn2 := hq.n2
  refine e_lvs (lv' := [(0, .ref (Y.1 0)), (1, .int x)]) rfl ?_
  refine e_iload_n 1 dX0_taskAt_0 rfl ?_
  refine e_if_lt 21 dX0_taskAt_1 (by decide) (fun h1 => ?_) (fun h1 => ?_)
  · skip
    have h1' := Int32.not_le.mpr h1
    refine e_null dX0_taskAt_21 ?_
    exact e_retA (v := none) dX0_taskAt_22 rfl (by simp) rfl rfl
  · skip
    have h1' := Int32.not_lt.mp h1
    obtain ⟨j, hj, rfl⟩ := nI_of h1
    refine e_iload_n 1 dX0_taskAt_4 rfl ?_
    refine e_aload_n 0 dX0_taskAt_5 rfl ?_
    refine e_getIv (nI n) dX0_taskAt_6 fl_X0_43 rfl (hq.T 0 (by decide)) hq.n7 ?_
    refine e_icmp_geN 21 dX0_taskAt_9 (by decide) (by omega) (by omega) (fun _ => ?_) (fun h => absurd h (fun q => absurd (tIn_of hq.n1 hq.n2 q) (by rw [hx]; decide)))
    refine e_null dX0_taskAt_21 ?_
    exact e_retA (v := none) dX0_taskAt_22 rfl (by simp) rfl rfl

set_option maxRecDepth 100000 in
set_option maxHeartbeats 4000000 in
theorem k_programAt (hq : KQ Z m Y ρ kf vf n) {j : Nat} (hj : j < 32) : Ev G 0 uX0_programAt [.ref (Y.1 0), .int (nI j)] m (some (.ref (Y.1 (209 + j)))) m := by
  refine Ev.of (by decide +kernel) (Nat.le_of_ble_eq_true rfl) ?_
  refine e_lvs (lv' := [(0, .ref (Y.1 0)), (1, .int (nI j))]) rfl ?_
  refine e_iload_n 1 dX0_programAt_0 rfl ?_
  refine e_if_lt 19 dX0_programAt_1 (by decide) (fun h => absurd h (nI_pos (by omega))) (fun _ => ?_)
  refine e_iload_n 1 dX0_programAt_4 rfl ?_
  refine e_bipush (v := nI 32) dX0_programAt_5 (by decide) ?_
  refine e_icmp_geN 19 dX0_programAt_7 (by decide) (by omega) (by omega) (fun h => absurd h (by omega)) (fun _ => ?_)
  refine e_aload_n 0 dX0_programAt_10 rfl ?_
  refine e_getP (some (Y.1 2)) dX0_programAt_11 fl_X0_19 rfl (hq.T 0 (by decide)) (hq.1.2.2.1.2.1) ?_
  refine e_iload_n 1 dX0_programAt_14 rfl ?_
  refine e_aaldN (some (Y.1 (209 + j))) dX0_programAt_15 (hq.T 2 (by decide)) (Or.inl rfl) (by rw [hq.1.2.1.2.1]; exact (by omega)) (by rw [hq.1.2.1.2.1]; decide) (hq.pp (by omega)) ?_
  refine e_goto 20 dX0_programAt_16 (by decide) ?_
  exact e_retA (v := some (Y.1 (209 + j))) dX0_programAt_20 rfl (by simp) rfl rfl

set_option maxRecDepth 100000 in
set_option maxHeartbeats 4000000 in
theorem k_programAtN (hq : KQ Z m Y ρ kf vf n) {x : Int32} (hx : inI x (nI 0) (nI 31) = false) : Ev G 0 uX0_programAt [.ref (Y.1 0), .int x] m (some .null) m := by
  refine Ev.of (by decide +kernel) (Nat.le_of_ble_eq_true rfl) ?_
  refine e_lvs (lv' := [(0, .ref (Y.1 0)), (1, .int x)]) rfl ?_
  refine e_iload_n 1 dX0_programAt_0 rfl ?_
  refine e_if_lt 19 dX0_programAt_1 (by decide) (fun h1 => ?_) (fun h1 => ?_)
  · skip
    have h1' := Int32.not_le.mpr h1
    refine e_null dX0_programAt_19 ?_
    exact e_retA (v := none) dX0_programAt_20 rfl (by simp) rfl rfl
  · skip
    have h1' := Int32.not_lt.mp h1
    obtain ⟨j, hj, rfl⟩ := nI_of h1
    refine e_iload_n 1 dX0_programAt_4 rfl ?_
    refine e_bipush (v := nI 32) dX0_programAt_5 (by decide) ?_
    refine e_icmp_geN 19 dX0_programAt_7 (by decide) (by omega) (by omega) (fun _ => ?_) (fun h => absurd h (fun q => absurd (inI_of (j := j) (a := 0) (b := 31) (Nat.zero_le _) (by omega) (by decide)) (by rw [hx]; decide)))
    refine e_null dX0_programAt_19 ?_
    exact e_retA (v := none) dX0_programAt_20 rfl (by simp) rfl rfl

set_option maxRecDepth 100000 in
set_option maxHeartbeats 4000000 in
theorem k_holderOf (hq : KQ Z m Y ρ kf vf n) {j : Nat} (hj : j < 100) : Ev G 0 uX0_holderOf [.ref (Y.1 0), .int (nI j)] m (some (.int (kf (240 + j)))) m := by
  refine Ev.of (by decide +kernel) (Nat.le_of_ble_eq_true rfl) ?_
  refine e_lvs (lv' := [(0, .ref (Y.1 0)), (1, .int (nI j))]) rfl ?_
  refine e_iload_n 1 dX0_holderOf_0 rfl ?_
  refine e_if_lt 19 dX0_holderOf_1 (by decide) (fun h => absurd h (nI_pos (by omega))) (fun _ => ?_)
  refine e_iload_n 1 dX0_holderOf_4 rfl ?_
  refine e_bipush (v := nI 100) dX0_holderOf_5 (by decide) ?_
  refine e_icmp_geN 19 dX0_holderOf_7 (by decide) (by omega) (by omega) (fun h => absurd h (by omega)) (fun _ => ?_)
  refine e_aload_n 0 dX0_holderOf_10 rfl ?_
  refine e_getP (some (Y.1 5)) dX0_holderOf_11 fl_X0_30 rfl (hq.T 0 (by decide)) (hq.1.2.2.1.2.2.2.1) ?_
  refine e_iload_n 1 dX0_holderOf_14 rfl ?_
  refine e_ialdN (kf (240 + j)) dX0_holderOf_15 (hq.T 5 (by decide)) (by rw [hq.1.2.1.2.2.1]; exact (by omega)) (by rw [hq.1.2.1.2.2.1]; decide) (hq.2.1.2.1.2.2.2 j (by omega)) ?_
  refine e_goto 21 dX0_holderOf_16 (by decide) ?_
  exact e_retI dX0_holderOf_21 rfl rfl rfl

set_option maxRecDepth 100000 in
set_option maxHeartbeats 4000000 in
theorem k_holderOfN (hq : KQ Z m Y ρ kf vf n) {x : Int32} (hx : inI x (nI 0) (nI 99) = false) : Ev G 0 uX0_holderOf [.ref (Y.1 0), .int x] m (some (.int (-2))) m := by
  refine Ev.of (by decide +kernel) (Nat.le_of_ble_eq_true rfl) ?_
  refine e_lvs (lv' := [(0, .ref (Y.1 0)), (1, .int x)]) rfl ?_
  refine e_iload_n 1 dX0_holderOf_0 rfl ?_
  refine e_if_lt 19 dX0_holderOf_1 (by decide) (fun h1 => ?_) (fun h1 => ?_)
  · skip
    have h1' := Int32.not_le.mpr h1
    refine e_bipush (v := (-2)) dX0_holderOf_19 (by decide) ?_
    exact e_retI dX0_holderOf_21 rfl rfl rfl
  · skip
    have h1' := Int32.not_lt.mp h1
    obtain ⟨j, hj, rfl⟩ := nI_of h1
    refine e_iload_n 1 dX0_holderOf_4 rfl ?_
    refine e_bipush (v := nI 100) dX0_holderOf_5 (by decide) ?_
    refine e_icmp_geN 19 dX0_holderOf_7 (by decide) (by omega) (by omega) (fun _ => ?_) (fun h => absurd h (fun q => absurd (inI_of (j := j) (a := 0) (b := 99) (Nat.zero_le _) (by omega) (by decide)) (by rw [hx]; decide)))
    refine e_bipush (v := (-2)) dX0_holderOf_19 (by decide) ?_
    exact e_retI dX0_holderOf_21 rfl rfl rfl

set_option maxRecDepth 100000 in
set_option maxHeartbeats 4000000 in
theorem k_unended (hq : KQ Z m Y ρ kf vf n) {j : Nat} (hj : j < n) (h4 : ¬ kg kf j 6 = 4) : Ev G 1 uX0_unendedTask [.ref (Y.1 0), .int (nI j)] m (some (.ref (Y.1 (9 + j)))) m := by
  refine Ev.of (by decide +kernel) (Nat.le_of_ble_eq_true rfl) ?_
  have hn2 := hq.n2
  refine e_lvs (lv' := [(0, .ref (Y.1 0)), (1, .int (nI j))]) rfl ?_
  refine e_aload_n 0 dX0_unendedTask_0 rfl ?_
  refine e_iload_n 1 dX0_unendedTask_1 rfl ?_
  refine e_callV (ci := 0) (st := []) (st1 := [.ref (Y.1 (9 + j))]) (As := [.int (nI j)]) (k_taskAt hq hj) dX0_unendedTask_2 (by decide) cm_X0_taskAt lk_X0_89 im_X0_taskAt rfl sel_X0_taskAt (hq.T 0 (by decide)) rfl rfl (Nat.le_of_ble_eq_true rfl) rfl ?_
  refine e_astore_n (lv' := [(2, .ref (Y.1 (9 + j))), (0, .ref (Y.1 0)), (1, .int (nI j))]) dX0_unendedTask_5 (by decide) rfl ?_
  refine e_aload_n 0 dX0_unendedTask_6 rfl ?_
  refine e_ifnull dX0_unendedTask_7 ?_
  refine e_aload_n 0 dX0_unendedTask_10 rfl ?_
  refine e_getIv (kg kf j 6) dX0_unendedTask_11 fl_X0_93 rfl (hq.Tt (by omega)) (hq.gt (by omega) 6 _ (by decide) rfl) ?_
  refine e_ic (nI 4) dX0_unendedTask_14 (by decide) ?_
  refine e_iv (w := 4) rfl ?_
  refine e_icmp_ne 22 dX0_unendedTask_15 (by decide) (fun _ => ?_) (fun h => absurd h (h4))
  refine e_aload_n 0 dX0_unendedTask_22 rfl ?_
  exact e_retA (v := some (Y.1 (9 + j))) dX0_unendedTask_23 rfl (by simp) rfl rfl

set_option maxRecDepth 100000 in
set_option maxHeartbeats 4000000 in
theorem k_unendedE (hq : KQ Z m Y ρ kf vf n) {j : Nat} (hj : j < n) (h4 : kg kf j 6 = 4) : Ev G 1 uX0_unendedTask [.ref (Y.1 0), .int (nI j)] m (some .null) m := by
  refine Ev.of (by decide +kernel) (Nat.le_of_ble_eq_true rfl) ?_
  have hn2 := hq.n2
  refine e_lvs (lv' := [(0, .ref (Y.1 0)), (1, .int (nI j))]) rfl ?_
  refine e_aload_n 0 dX0_unendedTask_0 rfl ?_
  refine e_iload_n 1 dX0_unendedTask_1 rfl ?_
  refine e_callV (ci := 0) (st := []) (st1 := [.ref (Y.1 (9 + j))]) (As := [.int (nI j)]) (k_taskAt hq hj) dX0_unendedTask_2 (by decide) cm_X0_taskAt lk_X0_89 im_X0_taskAt rfl sel_X0_taskAt (hq.T 0 (by decide)) rfl rfl (Nat.le_of_ble_eq_true rfl) rfl ?_
  refine e_astore_n (lv' := [(2, .ref (Y.1 (9 + j))), (0, .ref (Y.1 0)), (1, .int (nI j))]) dX0_unendedTask_5 (by decide) rfl ?_
  refine e_aload_n 0 dX0_unendedTask_6 rfl ?_
  refine e_ifnull dX0_unendedTask_7 ?_
  refine e_aload_n 0 dX0_unendedTask_10 rfl ?_
  refine e_getIv (kg kf j 6) dX0_unendedTask_11 fl_X0_93 rfl (hq.Tt (by omega)) (hq.gt (by omega) 6 _ (by decide) rfl) ?_
  refine e_ic (nI 4) dX0_unendedTask_14 (by decide) ?_
  refine e_iv (w := 4) rfl ?_
  refine e_icmp_ne 22 dX0_unendedTask_15 (by decide) (fun h => absurd h (not_not_intro h4)) (fun _ => ?_)
  refine e_null dX0_unendedTask_18 ?_
  refine e_goto 23 dX0_unendedTask_19 (by decide) ?_
  exact e_retA (v := none) dX0_unendedTask_23 rfl (by simp) rfl rfl

set_option maxRecDepth 100000 in
set_option maxHeartbeats 4000000 in
theorem k_unendedN (hq : KQ Z m Y ρ kf vf n) {x : Int32} (hx : tIn kf x = false) : Ev G 1 uX0_unendedTask [.ref (Y.1 0), .int x] m (some .null) m := by
  refine Ev.of (by decide +kernel) (Nat.le_of_ble_eq_true rfl) ?_
  have hn2 := hq.n2
  refine e_lvs (lv' := [(0, .ref (Y.1 0)), (1, .int x)]) rfl ?_
  refine e_aload_n 0 dX0_unendedTask_0 rfl ?_
  refine e_iload_n 1 dX0_unendedTask_1 rfl ?_
  refine e_callV (ci := 0) (st := []) (st1 := [.null]) (As := [.int x]) (k_taskAtN hq hx) dX0_unendedTask_2 (by decide) cm_X0_taskAt lk_X0_89 im_X0_taskAt rfl sel_X0_taskAt (hq.T 0 (by decide)) rfl rfl (Nat.le_of_ble_eq_true rfl) rfl ?_
  refine e_astore_nN (lv' := [(2, .null), (0, .ref (Y.1 0)), (1, .int x)]) dX0_unendedTask_5 (by decide) rfl ?_
  refine e_aload_nN 0 dX0_unendedTask_6 rfl ?_
  refine e_ifnullN 18 dX0_unendedTask_7 (by decide) ?_
  refine e_null dX0_unendedTask_18 ?_
  refine e_goto 23 dX0_unendedTask_19 (by decide) ?_
  exact e_retA (v := none) dX0_unendedTask_23 rfl (by simp) rfl rfl

end Class1

section Class1b
variable {G : GG} {m : Mem}

set_option maxRecDepth 100000 in
set_option maxHeartbeats 4000000 in
theorem k_isShare (x : Int32) : Ev G 0 uX5_isShare [.int x] m (some (.int (bI (inI x (nI 1) (nI 1000))))) m := by
  refine Ev.of (by decide +kernel) (Nat.le_of_ble_eq_true rfl) ?_
  refine e_lvs (lv' := [(0, .int x)]) rfl ?_
  refine e_iload_n 0 dX5_isShare_0 rfl ?_
  refine e_ic (nI 1) dX5_isShare_1 (by decide) ?_
  refine e_iv (w := 1) rfl ?_
  refine e_icmp_lt 16 dX5_isShare_2 (by decide) (fun h1 => ?_) (fun h1 => ?_)
  · skip
    have h1' := Int32.not_le.mpr h1
    refine e_ic (nI 0) dX5_isShare_16 (by decide) ?_
    exact e_retI dX5_isShare_17 rfl rfl (bI_f (decide_eq_false (fun q => Int32.not_lt.mpr q.1 h1))) rfl
  · skip
    have h1' := Int32.not_lt.mp h1
    refine e_iload_n 0 dX5_isShare_5 rfl ?_
    refine e_sipush (v := nI 1000) dX5_isShare_6 (by decide) ?_
    refine e_iv (w := 1000) rfl ?_
    refine e_icmp_gt 16 dX5_isShare_9 (by decide) (fun h2 => ?_) (fun h2 => ?_)
    · skip
      have h2' := Int32.not_le.mpr h2
      refine e_ic (nI 0) dX5_isShare_16 (by decide) ?_
      exact e_retI dX5_isShare_17 rfl rfl (bI_f (decide_eq_false (fun q => Int32.not_lt.mpr q.2 h2))) rfl
    · skip
      have h2' := Int32.not_lt.mp h2
      refine e_ic (nI 1) dX5_isShare_12 (by decide) ?_
      refine e_goto 17 dX5_isShare_13 (by decide) ?_
      exact e_retI dX5_isShare_17 rfl rfl (bI_t (decide_eq_true ⟨Int32.not_lt.mp h1, Int32.not_lt.mp h2⟩)) rfl

def clX (x : Int64) : Int32 := (x >>> ((nI 48).toInt64 &&& 63)).toInt32
def keX (x : Int64) : Int64 := (x >>> ((nI 8).toInt64 &&& 63)) &&& 1099511627775
def nuX (x : Int64) : Int32 := (x &&& lN 255).toInt32

set_option maxRecDepth 100000 in
set_option maxHeartbeats 4000000 in
theorem k_classOf (x : Int64) : Ev G 0 uX5_classOf [.long x] m (some (.int (clX x))) m := by
  refine Ev.of (by decide +kernel) (Nat.le_of_ble_eq_true rfl) ?_
  refine e_lvs (lv' := [(0, .long x)]) rfl ?_
  refine e_lload_n 0 dX5_classOf_0 rfl ?_
  refine e_bipush (v := nI 48) dX5_classOf_1 (by decide) ?_
  refine e_lshr dX5_classOf_3 ?_
  refine e_l2i dX5_classOf_4 ?_
  exact e_retI dX5_classOf_5 rfl rfl rfl

set_option maxRecDepth 100000 in
set_option maxHeartbeats 4000000 in
theorem k_keyOf (x : Int64) : Ev G 0 uX5_keyOf [.long x] m (some (.long (keX x))) m := by
  refine Ev.of (by decide +kernel) (Nat.le_of_ble_eq_true rfl) ?_
  refine e_lvs (lv' := [(0, .long x)]) rfl ?_
  refine e_lload_n 0 dX5_keyOf_0 rfl ?_
  refine e_bipush (v := nI 8) dX5_keyOf_1 (by decide) ?_
  refine e_lshr dX5_keyOf_3 ?_
  refine e_ldc2 dX5_keyOf_4 cs_X5_218 ?_
  refine e_land dX5_keyOf_7 ?_
  exact e_retL dX5_keyOf_8 rfl rfl

set_option maxRecDepth 100000 in
set_option maxHeartbeats 4000000 in
theorem k_numberOf (x : Int64) : Ev G 0 uX5_numberOf [.long x] m (some (.int (nuX x))) m := by
  refine Ev.of (by decide +kernel) (Nat.le_of_ble_eq_true rfl) ?_
  refine e_lvs (lv' := [(0, .long x)]) rfl ?_
  refine e_lload_n 0 dX5_numberOf_0 rfl ?_
  refine e_ldc2 dX5_numberOf_1 cs_X5_220 ?_
  refine e_lv (w := lN 255) (by decide) ?_
  refine e_land dX5_numberOf_4 ?_
  refine e_l2i dX5_numberOf_5 ?_
  exact e_retI dX5_numberOf_6 rfl rfl rfl

end Class1b
