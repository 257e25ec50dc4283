/-! the class: acts -/
def oc (h : Int32) : Int32 := if 0 < h then h else if h = 0 then -1 else if h = -1 then -2 else 0
def wbF (kf : KF) (t : Nat) (x : Int32) : Int32 × KF := if inI x (nI 0) (nI 15) then (-1, wts kf t (nI 2) x (-1)) else (nI 10, kf)
def slF (kf : KF) (t : Nat) (x : Int32) : Int32 × KF := if 0 < x then (-1, wts kf t (nI 3) (-1) (kf 0 + x)) else (nI 0, kf)
def rbF (kf : KF) (x : Int32) : Int32 × KF := if inI x (nI 0) (nI 15) then (nI 0, (rgF kf x).1) else (nI 10, kf)
def flF (x : Int32) : Int32 := if inI x (nI 0) (nI 3) then (if x = 0 ∨ x = 3 then nI 5 else nI 6) else nI 10
def fsV (kf : KF) (t : Nat) (x : Int32) : Int32 := if kg kf t 14 < 0 then nI 8 else if inI x (nI 0) (kg kf t 14 - nI 1) then -1 else nI 9
theorem wts_a {kf : KF} {t : Nat} {a b : Int32} (h : kg kf t 8 = -1) : wts kf t a b (-1) = ks (bwK kf t a) t 7 b := by
  rw [wts_bw]
  exact ks_self (by rw [kg_ne _ _ _ _ _ _ (by decide) (by decide) (by decide), kg_bw _ _ _ _ (by decide) (by decide), h])
theorem wts_b {kf : KF} {t : Nat} {a c : Int32} (h : kg kf t 7 = -1) : wts kf t a (-1) c = ks (bwK kf t a) t 8 c := by
  rw [wts_bw]
  have e : ks (bwK kf t a) t 7 (-1) = bwK kf t a := ks_self (by rw [kg_bw _ _ _ _ (by decide) (by decide), h])
  rw [e]
section Class8
variable {G : GG} {Z : Mem × YY} {m : Mem} {Y : YY} {ρ n : Nat} {kf : KF} {vf : VF}

set_option maxRecDepth 100000 in
set_option maxHeartbeats 4000000 in
theorem k_waitForBell (hq : KQ Z m Y ρ kf vf n) (hρ : 62000 ≤ ρ) {t : Nat} (ht : t < n) (h8 : kg kf t 8 = -1) (x : Int32) : EvC G 1 uX0_waitForBell [.ref (Y.1 0), .ref (Y.1 (9 + t)), .int x] m (fun r mm => r = some (.int (oc (wbF kf t x).1)) ∧ KQ Z mm Y ρ (wbF kf t x).2 vf n) := by
  refine EvC.of (by decide +kernel) (Nat.le_of_ble_eq_true rfl) ?_
  have hn2 := hq.n2
  refine r_go (fun kk => e_lvs (lv' := [(0, .ref (Y.1 0)), (1, .ref (Y.1 (9 + t))), (2, .int x)]) rfl kk) ?_
  refine r_go (fun kk => e_iload_n 2 dX0_waitForBell_0 rfl kk) ?_
  refine r_b1 (fun ka kb => e_if_lt 10 dX0_waitForBell_1 (by decide) ka kb) (fun q1 => ?_) (fun q1 => ?_)
  · skip
    have q1' := Int32.not_le.mpr q1
    refine r_go (fun kk => e_bipush (v := nI 10) dX0_waitForBell_10 (by decide) kk) ?_
    have e : inI (x) (nI 0) (nI 15) = false := in_lt q1
    exact r_ret ⟨by rw [wbF, e, if_neg (by decide)]; rfl, by rw [wbF, e, if_neg (by decide)]; exact hq⟩ (e_retI dX0_waitForBell_12 rfl rfl rfl)
  · skip
    have q1' := Int32.not_lt.mp q1
    obtain ⟨j, hj, rfl⟩ := nI_of q1
    refine r_go (fun kk => e_iload_n 2 dX0_waitForBell_4 rfl kk) ?_
    refine r_go (fun kk => e_bipush (v := nI 16) dX0_waitForBell_5 (by decide) kk) ?_
    refine r_bm (fun ka kb => e_icmp_ltN 13 dX0_waitForBell_7 (by decide) (by omega) (by omega) ka kb) (fun q2 => ?_) (fun q2 => ?_)
    · skip
      have q2' := Nat.not_le.mpr q2
      refine r_go (fun kk => e_aload_n 0 dX0_waitForBell_13 rfl kk) ?_
      refine r_go (fun kk => e_aload_n 1 dX0_waitForBell_14 rfl kk) ?_
      refine r_go (fun kk => e_ic (nI 2) dX0_waitForBell_15 (by decide) kk) ?_
      obtain ⟨_, m1, ⟨rfl, hq1⟩, E1x16⟩ := k_beginWait (G := G) hq hρ (t := t) (by omega) (nI 2)
      refine r_go (fun kk => e_callV (ci := 0) (st := []) (st1 := []) (As := [.ref (Y.1 (9 + t)), .int (nI 2)]) (E1x16) dX0_waitForBell_16 (by decide) cm_X0_beginWait lk_X0_283 im_X0_beginWait rfl sel_X0_beginWait (hq.T 0 (by decide)) rfl rfl (Nat.le_of_ble_eq_true rfl) rfl kk) ?_
      refine r_go (fun kk => e_aload_n 1 dX0_waitForBell_19 rfl kk) ?_
      refine r_go (fun kk => e_iload_n 2 dX0_waitForBell_20 rfl kk) ?_
      refine r_go (fun kk => e_putI (ci := 4) (k := 9) dX0_waitForBell_21 fl_X0_115 rfl (fun q h => by cases h; rfl) ⟨rfl, rfl⟩ (hq1.Tt (by omega)) kk) ?_
      refine r_gen (fun mm => KQ Z mm Y ρ (ks (bwK kf t (nI 2)) t 7 (nI j)) vf n) (hq1.t hρ (by omega) (by decide) rfl) (fun m2 hq2 => ?_)
      refine r_go (fun kk => e_bipush (v := (-2)) dX0_waitForBell_24 (by decide) kk) ?_
      have e : inI (nI j) (nI 0) (nI 15) = true := inI_of (by omega) (by omega) (by decide)
      exact r_ret ⟨by rw [wbF, if_pos e]; rfl, by rw [wbF, if_pos e, wts_a h8]; exact hq2⟩ (e_retI dX0_waitForBell_26 rfl rfl rfl)
    · skip
      have q2' := Nat.not_lt.mpr q2
      refine r_go (fun kk => e_bipush (v := nI 10) dX0_waitForBell_10 (by decide) kk) ?_
      have e : inI (nI j) (nI 0) (nI 15) = false := in_ge (by omega) (by decide) (by omega)
      exact r_ret ⟨by rw [wbF, e, if_neg (by decide)]; rfl, by rw [wbF, e, if_neg (by decide)]; exact hq⟩ (e_retI dX0_waitForBell_12 rfl rfl rfl)

set_option maxRecDepth 100000 in
set_option maxHeartbeats 4000000 in
theorem k_sleep (hq : KQ Z m Y ρ kf vf n) (hρ : 62000 ≤ ρ) {t : Nat} (ht : t < n) (h7 : kg kf t 7 = -1) (x : Int32) : EvC G 1 uX0_sleep [.ref (Y.1 0), .ref (Y.1 (9 + t)), .int x] m (fun r mm => r = some (.int (oc (slF kf t x).1)) ∧ KQ Z mm Y ρ (slF kf t x).2 vf n) := by
  refine EvC.of (by decide +kernel) (Nat.le_of_ble_eq_true rfl) ?_
  have hn2 := hq.n2
  refine r_go (fun kk => e_lvs (lv' := [(0, .ref (Y.1 0)), (1, .ref (Y.1 (9 + t))), (2, .int x)]) rfl kk) ?_
  refine r_go (fun kk => e_iload_n 2 dX0_sleep_0 rfl kk) ?_
  refine r_b1 (fun ka kb => e_if_gt 6 dX0_sleep_1 (by decide) ka kb) (fun q1 => ?_) (fun q1 => ?_)
  · skip
    have q1' := Int32.not_le.mpr q1
    refine r_go (fun kk => e_aload_n 0 dX0_sleep_6 rfl kk) ?_
    refine r_go (fun kk => e_aload_n 1 dX0_sleep_7 rfl kk) ?_
    refine r_go (fun kk => e_ic (nI 3) dX0_sleep_8 (by decide) kk) ?_
    obtain ⟨_, m1, ⟨rfl, hq1⟩, E1x9⟩ := k_beginWait (G := G) hq hρ (t := t) (by omega) (nI 3)
    refine r_go (fun kk => e_callV (ci := 0) (st := []) (st1 := []) (As := [.ref (Y.1 (9 + t)), .int (nI 3)]) (E1x9) dX0_sleep_9 (by decide) cm_X0_beginWait lk_X0_283 im_X0_beginWait rfl sel_X0_beginWait (hq.T 0 (by decide)) rfl rfl (Nat.le_of_ble_eq_true rfl) rfl kk) ?_
    refine r_go (fun kk => e_aload_n 1 dX0_sleep_12 rfl kk) ?_
    refine r_go (fun kk => e_aload_n 0 dX0_sleep_13 rfl kk) ?_
    refine r_go (fun kk => e_getIv ((bwK kf t (nI 3)) 0) dX0_sleep_14 fl_X0_47 rfl (hq1.T 0 (by decide)) hq1.2.1.1.1 kk) ?_
    refine r_go (fun kk => e_iload_n 2 dX0_sleep_17 rfl kk) ?_
    refine r_go (fun kk => e_iadd dX0_sleep_18 kk) ?_
    refine r_go (fun kk => e_putI (ci := 4) (k := 10) dX0_sleep_19 fl_X0_138 rfl (fun q h => by cases h; rfl) ⟨rfl, rfl⟩ (hq1.Tt (by omega)) kk) ?_
    refine r_gen (fun mm => KQ Z mm Y ρ (ks (bwK kf t (nI 3)) t 8 (((bwK kf t (nI 3)) 0) + x)) vf n) (hq1.t hρ (by omega) (by decide) rfl) (fun m2 hq2 => ?_)
    refine r_go (fun kk => e_bipush (v := (-2)) dX0_sleep_22 (by decide) kk) ?_
    exact r_ret ⟨by rw [slF, if_pos q1]; rfl, by rw [slF, if_pos q1, wts_b h7]; rw [bw_at _ _ _ _ (by omega)] at hq2; exact hq2⟩ (e_retI dX0_sleep_24 rfl rfl rfl)
  · skip
    have q1' := Int32.not_lt.mp q1
    refine r_go (fun kk => e_ic ((-1)) dX0_sleep_4 (by decide) kk) ?_
    exact r_ret ⟨by rw [slF, if_neg q1]; rfl, by rw [slF, if_neg q1]; exact hq⟩ (e_retI dX0_sleep_5 rfl rfl rfl)

set_option maxRecDepth 100000 in
set_option maxHeartbeats 4000000 in
theorem k_ringFrom (hq : KQ Z m Y ρ kf vf n) (hρ : 62000 ≤ ρ) (x : Int32) : EvC G 2 uX0_ringFrom [.ref (Y.1 0), .int x] m (fun r mm => r = some (.int (oc (rbF kf x).1)) ∧ KQ Z mm Y ρ (rbF kf x).2 vf n) := by
  refine EvC.of (by decide +kernel) (Nat.le_of_ble_eq_true rfl) ?_
  have hn2 := hq.n2
  refine r_go (fun kk => e_lvs (lv' := [(0, .ref (Y.1 0)), (1, .int x)]) rfl kk) ?_
  refine r_go (fun kk => e_iload_n 1 dX0_ringFrom_0 rfl kk) ?_
  refine r_b1 (fun ka kb => e_if_lt 10 dX0_ringFrom_1 (by decide) ka kb) (fun q1 => ?_) (fun q1 => ?_)
  · skip
    have q1' := Int32.not_le.mpr q1
    refine r_go (fun kk => e_bipush (v := nI 10) dX0_ringFrom_10 (by decide) kk) ?_
    have e : inI (x) (nI 0) (nI 15) = false := in_lt q1
    exact r_ret ⟨by rw [rbF, e, if_neg (by decide)]; rfl, by rw [rbF, e, if_neg (by decide)]; exact hq⟩ (e_retI dX0_ringFrom_12 rfl rfl rfl)
  · skip
    have q1' := Int32.not_lt.mp q1
    obtain ⟨j, hj, rfl⟩ := nI_of q1
    refine r_go (fun kk => e_iload_n 1 dX0_ringFrom_4 rfl kk) ?_
    refine r_go (fun kk => e_bipush (v := nI 16) dX0_ringFrom_5 (by decide) kk) ?_
    refine r_bm (fun ka kb => e_icmp_ltN 13 dX0_ringFrom_7 (by decide) (by omega) (by omega) ka kb) (fun q2 => ?_) (fun q2 => ?_)
    · skip
      have q2' := Nat.not_le.mpr q2
      refine r_go (fun kk => e_aload_n 0 dX0_ringFrom_13 rfl kk) ?_
      refine r_go (fun kk => e_iload_n 1 dX0_ringFrom_14 rfl kk) ?_
      obtain ⟨_, m1, ⟨c, rfl, -, hq1⟩, E1x15⟩ := k_ringBell (G := G) hq hρ (nI j)
      refine r_go (fun kk => e_callV (ci := 0) (st := []) (st1 := [.int (nI c)]) (As := [.int (nI j)]) (E1x15) dX0_ringFrom_15 (by decide) cm_X0_ringBell lk_X0_286 im_X0_ringBell rfl sel_X0_ringBell (hq.T 0 (by decide)) rfl rfl (Nat.le_of_ble_eq_true rfl) rfl kk) ?_
      refine r_go (fun kk => e_pop dX0_ringFrom_18 rfl kk) ?_
      refine r_go (fun kk => e_ic ((-1)) dX0_ringFrom_19 (by decide) kk) ?_
      have e : inI (nI j) (nI 0) (nI 15) = true := inI_of (by omega) (by omega) (by decide)
      exact r_ret ⟨by rw [rbF, if_pos e]; rfl, by rw [rbF, if_pos e]; exact hq1⟩ (e_retI dX0_ringFrom_20 rfl rfl rfl)
    · skip
      have q2' := Nat.not_lt.mpr q2
      refine r_go (fun kk => e_bipush (v := nI 10) dX0_ringFrom_10 (by decide) kk) ?_
      have e : inI (nI j) (nI 0) (nI 15) = false := in_ge (by omega) (by decide) (by omega)
      exact r_ret ⟨by rw [rbF, e, if_neg (by decide)]; rfl, by rw [rbF, e, if_neg (by decide)]; exact hq⟩ (e_retI dX0_ringFrom_12 rfl rfl rfl)

set_option maxRecDepth 100000 in
set_option maxHeartbeats 4000000 in
theorem k_fail (x : Int32) : Ev G 0 uX0_fail [.ref (Y.1 0), .int x] m (some (.int (flF x))) m := by
  refine Ev.of (by decide +kernel) (Nat.le_of_ble_eq_true rfl) ?_
  refine e_lvs (lv' := [(0, .ref (Y.1 0)), (1, .int x)]) rfl ?_
  refine e_iload_n 1 dX0_fail_0 rfl ?_
  by_cases hsw : inI x (nI 0) (nI 3) = true
  · skip
    obtain ⟨jsw, hsw1, hsw2, rfl⟩ := inI_n (by decide) (by decide) hsw
    rcases (show jsw = 0 ∨ jsw = 1 ∨ jsw = 2 ∨ jsw = 3 by omega) with rfl | rfl | rfl | rfl
    · skip
      refine e_tabIn (off := 31) 32 dX0_fail_1 (by decide) (by decide) (by decide) (by decide) ?_
      refine e_ic (nI 5) dX0_fail_32 (by decide) ?_
      exact e_retI dX0_fail_33 rfl rfl (by decide) rfl
    · skip
      refine e_tabIn (off := 33) 34 dX0_fail_1 (by decide) (by decide) (by decide) (by decide) ?_
      refine e_bipush (v := nI 6) dX0_fail_34 (by decide) ?_
      exact e_retI dX0_fail_36 rfl rfl (by decide) rfl
    · skip
      refine e_tabIn (off := 33) 34 dX0_fail_1 (by decide) (by decide) (by decide) (by decide) ?_
      refine e_bipush (v := nI 6) dX0_fail_34 (by decide) ?_
      exact e_retI dX0_fail_36 rfl rfl (by decide) rfl
    · skip
      refine e_tabIn (off := 31) 32 dX0_fail_1 (by decide) (by decide) (by decide) (by decide) ?_
      refine e_ic (nI 5) dX0_fail_32 (by decide) ?_
      exact e_retI dX0_fail_33 rfl rfl (by decide) rfl
  · skip
    rw [Bool.not_eq_true] at hsw
    refine e_tabOut 37 dX0_fail_1 (inI_out (a := 0) (b := 3) (by decide) (by decide) hsw) (by decide) ?_
    refine e_bipush (v := nI 10) dX0_fail_37 (by decide) ?_
    exact e_retI dX0_fail_39 rfl rfl (by rw [flF, hsw, if_neg (by decide)]) rfl

set_option maxRecDepth 100000 in
set_option maxHeartbeats 4000000 in
theorem k_claim (hq : KQ Z m Y ρ kf vf n) (hρ : 62000 ≤ ρ) {t : Nat} (ht : t < n) (x : Int32) : EvC G 1 uX0_claim [.ref (Y.1 0), .ref (Y.1 (9 + t)), .int x] m (fun r mm => r = some (.int (oc (syF kf t x).1)) ∧ KQ Z mm Y ρ (syF kf t x).2 vf n) := by
  refine EvC.of (by decide +kernel) (Nat.le_of_ble_eq_true rfl) ?_
  have hn2 := hq.n2
  refine r_go (fun kk => e_lvs (lv' := [(0, .ref (Y.1 0)), (1, .ref (Y.1 (9 + t))), (2, .int x)]) rfl kk) ?_
  refine r_go (fun kk => e_iload_n 2 dX0_claim_0 rfl kk) ?_
  refine r_b1 (fun ka kb => e_if_lt 9 dX0_claim_1 (by decide) ka kb) (fun q1 => ?_) (fun q1 => ?_)
  · skip
    have q1' := Int32.not_le.mpr q1
    refine r_go (fun kk => e_bipush (v := nI 10) dX0_claim_9 (by decide) kk) ?_
    have e : inI (x) (nI 0) (nI 4) = false := in_lt q1
    exact r_ret ⟨by rw [syF, e, if_neg (by decide)]; rfl, by rw [syF, e, if_neg (by decide)]; exact hq⟩ (e_retI dX0_claim_11 rfl rfl rfl)
  · skip
    have q1' := Int32.not_lt.mp q1
    obtain ⟨j, hj, rfl⟩ := nI_of q1
    refine r_go (fun kk => e_iload_n 2 dX0_claim_4 rfl kk) ?_
    refine r_go (fun kk => e_ic (nI 4) dX0_claim_5 (by decide) kk) ?_
    refine r_bl (fun ka kb => e_icmp_leN 12 dX0_claim_6 (by decide) (by omega) (by omega) ka kb) (fun q2 => ?_) (fun q2 => ?_)
    · skip
      have q2' := Nat.not_lt.mpr q2
      refine r_go (fun kk => e_aload_n 1 dX0_claim_12 rfl kk) ?_
      refine r_go (fun kk => e_iload_n 2 dX0_claim_13 rfl kk) ?_
      refine r_go (fun kk => e_callV (ci := 4) (st := []) (st1 := [.int (bI (isOfB (kg kf t 0) (nI j)))]) (As := [.int (nI j)]) (k_isOf hq ht (nI j)) dX0_claim_14 (by decide) cm_X4_isOf lk_X0_316 im_X4_isOf rfl sel_X4_isOf (hq.Tt (by omega)) rfl rfl (Nat.le_of_ble_eq_true rfl) rfl kk) ?_
      refine r_bb (fun ka kb => e_if_neB 22 dX0_claim_17 (by decide) ka kb) (fun q3 => ?_) (fun q3 => ?_)
      · skip
        refine r_go (fun kk => e_aload_n 1 dX0_claim_22 rfl kk) ?_
        refine r_go (fun kk => e_dup dX0_claim_23 rfl kk) ?_
        refine r_go (fun kk => e_getIv (kg kf t 13) dX0_claim_24 fl_X0_201 rfl (hq.Tt (by omega)) (hq.gt (by omega) 13 _ (by decide) rfl) kk) ?_
        refine r_go (fun kk => e_iload_n 2 dX0_claim_27 rfl kk) ?_
        refine r_go (fun kk => e_ic (nI 1) dX0_claim_28 (by decide) kk) ?_
        refine r_b1 (fun ka kb => e_icmp_eqN 37 dX0_claim_29 (by decide) (by omega) (by omega) ka kb) (fun q4 => ?_) (fun q4 => ?_)
        · skip
          refine r_go (fun kk => e_ic (nI 1) dX0_claim_37 (by decide) kk) ?_
          refine r_go (fun kk => e_goto 42 dX0_claim_38 (by decide) kk) ?_
          refine r_go (fun kk => e_iadd dX0_claim_42 kk) ?_
          refine r_go (fun kk => e_putI (ci := 4) (k := 15) dX0_claim_43 fl_X0_201 rfl (fun q h => by cases h; rfl) ⟨rfl, rfl⟩ (hq.Tt (by omega)) kk) ?_
          refine r_gen (fun mm => KQ Z mm Y ρ (ks kf t 13 ((kg kf t 13) + (nI 1))) vf n) (hq.t hρ (by omega) (by decide) rfl) (fun m1 hq1 => ?_)
          refine r_go (fun kk => e_ic ((-1)) dX0_claim_46 (by decide) kk) ?_
          have e : inI (nI j) (nI 0) (nI 4) = true := inI_of (by omega) (by omega) (by decide)
          exact r_ret ⟨by rw [syF, if_pos e, if_pos (show _ = true from q3)]; rfl, by rw [syF, if_pos e, if_pos (show _ = true from q3)]; dsimp only; rw [if_pos (show nI j = 1 ∨ nI j = 2 from Or.inl (congrArg nI q4))]; exact hq1⟩ (e_retI dX0_claim_47 rfl rfl rfl)
        · skip
          refine r_go (fun kk => e_iload_n 2 dX0_claim_32 rfl kk) ?_
          refine r_go (fun kk => e_ic (nI 2) dX0_claim_33 (by decide) kk) ?_
          refine r_b2 (fun ka kb => e_icmp_neN 41 dX0_claim_34 (by decide) (by omega) (by omega) ka kb) (fun q5 => ?_) (fun q5 => ?_)
          · skip
            refine r_go (fun kk => e_ic (nI 0) dX0_claim_41 (by decide) kk) ?_
            refine r_go (fun kk => e_iadd dX0_claim_42 kk) ?_
            refine r_go (fun kk => e_putI (ci := 4) (k := 15) dX0_claim_43 fl_X0_201 rfl (fun q h => by cases h; rfl) ⟨rfl, rfl⟩ (hq.Tt (by omega)) kk) ?_
            refine r_gen (fun mm => KQ Z mm Y ρ (ks kf t 13 ((kg kf t 13) + (nI 0))) vf n) (hq.t hρ (by omega) (by decide) rfl) (fun m2 hq2 => ?_)
            refine r_go (fun kk => e_ic ((-1)) dX0_claim_46 (by decide) kk) ?_
            have e : inI (nI j) (nI 0) (nI 4) = true := inI_of (by omega) (by omega) (by decide)
            exact r_ret ⟨by rw [syF, if_pos e, if_pos (show _ = true from q3)]; rfl, by rw [syF, if_pos e, if_pos (show _ = true from q3)]; dsimp only; rw [if_neg (show ¬ (nI j = 1 ∨ nI j = 2) from fun z => z.elim (fun y => q4 ((nI_eq (by omega) (by decide)).mp y)) (fun y => q5 ((nI_eq (by omega) (by decide)).mp y)))]; have := hq2; rw [ks_self (show kg kf t 13 = kg kf t 13 + nI 0 from (Int32.add_zero _).symm)] at this; exact this⟩ (e_retI dX0_claim_47 rfl rfl rfl)
          · skip
            refine r_go (fun kk => e_ic (nI 1) dX0_claim_37 (by decide) kk) ?_
            refine r_go (fun kk => e_goto 42 dX0_claim_38 (by decide) kk) ?_
            refine r_go (fun kk => e_iadd dX0_claim_42 kk) ?_
            refine r_go (fun kk => e_putI (ci := 4) (k := 15) dX0_claim_43 fl_X0_201 rfl (fun q h => by cases h; rfl) ⟨rfl, rfl⟩ (hq.Tt (by omega)) kk) ?_
            refine r_gen (fun mm => KQ Z mm Y ρ (ks kf t 13 ((kg kf t 13) + (nI 1))) vf n) (hq.t hρ (by omega) (by decide) rfl) (fun m3 hq3 => ?_)
            refine r_go (fun kk => e_ic ((-1)) dX0_claim_46 (by decide) kk) ?_
            have e : inI (nI j) (nI 0) (nI 4) = true := inI_of (by omega) (by omega) (by decide)
            exact r_ret ⟨by rw [syF, if_pos e, if_pos (show _ = true from q3)]; rfl, by rw [syF, if_pos e, if_pos (show _ = true from q3)]; dsimp only; rw [if_pos (show nI j = 1 ∨ nI j = 2 from Or.inr (congrArg nI q5))]; exact hq3⟩ (e_retI dX0_claim_47 rfl rfl rfl)
      · skip
        refine r_go (fun kk => e_ic (nI 3) dX0_claim_20 (by decide) kk) ?_
        have e : inI (nI j) (nI 0) (nI 4) = true := inI_of (by omega) (by omega) (by decide)
        exact r_ret ⟨by rw [syF, if_pos e, q3, if_neg (by decide)]; rfl, by rw [syF, if_pos e, q3, if_neg (by decide)]; exact hq⟩ (e_retI dX0_claim_21 rfl rfl rfl)
    · skip
      have q2' := Nat.not_le.mpr q2
      refine r_go (fun kk => e_bipush (v := nI 10) dX0_claim_9 (by decide) kk) ?_
      have e : inI (nI j) (nI 0) (nI 4) = false := in_ge (by omega) (by decide) (by omega)
      exact r_ret ⟨by rw [syF, e, if_neg (by decide)]; rfl, by rw [syF, e, if_neg (by decide)]; exact hq⟩ (e_retI dX0_claim_11 rfl rfl rfl)

set_option maxRecDepth 100000 in
set_option maxHeartbeats 4000000 in
theorem k_findShort (hq : KQ Z m Y ρ kf vf n) {t : Nat} (ht : t < n) (hm : kg kf t 14 = -1 ∨ ∃ c, c ≤ 127 ∧ kg kf t 14 = nI c) (x : Int32) : Ev G 1 uX0_findShort [.ref (Y.1 0), .ref (Y.1 (9 + t)), .int x] m (some (.int (fsV kf t x))) m := by
  refine Ev.of (by decide +kernel) (Nat.le_of_ble_eq_true rfl) ?_
  have hn2 := hq.n2
  refine e_lvs (lv' := [(0, .ref (Y.1 0)), (1, .ref (Y.1 (9 + t))), (2, .int x)]) rfl ?_
  refine e_aload_n 1 dX0_findShort_0 rfl ?_
  refine e_getIv (kg kf t 14) dX0_findShort_1 fl_X0_296 rfl (hq.Tt (by omega)) (hq.gt (by omega) 14 _ (by decide) rfl) ?_
  refine e_if_ge 10 dX0_findShort_4 (by decide) (fun q1 => ?_) (fun q1 => ?_)
  · skip
    have q1' := Int32.not_lt.mpr q1
    refine e_aload_n 1 dX0_findShort_10 rfl ?_
    refine e_iload_n 2 dX0_findShort_11 rfl ?_
    refine e_callV (ci := 4) (st := []) (st1 := [.int (bI (inI x (nI 0) (kg kf t 14 - nI 1)))]) (As := [.int x]) (k_hasShort hq ht hm x) dX0_findShort_12 (by decide) cm_X4_hasShort lk_X0_302 im_X4_hasShort rfl sel_X4_hasShort (hq.Tt (by omega)) rfl rfl (Nat.le_of_ble_eq_true rfl) rfl ?_
    refine e_if_eqB 22 dX0_findShort_15 (by decide) (fun q2 => ?_) (fun q2 => ?_)
    · skip
      refine e_bipush (v := nI 9) dX0_findShort_22 (by decide) ?_
      exact e_retI dX0_findShort_24 rfl rfl (by rw [fsV, if_neg (Int32.not_lt.mpr q1), q2, if_neg (by decide)]) rfl
    · skip
      refine e_ic ((-1)) dX0_findShort_18 (by decide) ?_
      refine e_goto 24 dX0_findShort_19 (by decide) ?_
      exact e_retI dX0_findShort_24 rfl rfl (by rw [fsV, if_neg (Int32.not_lt.mpr q1), if_pos (show _ = true from q2)]) rfl
  · skip
    have q1' := Int32.not_le.mp q1
    refine e_bipush (v := nI 8) dX0_findShort_7 (by decide) ?_
    exact e_retI dX0_findShort_9 rfl rfl (by rw [fsV, if_pos (Int32.not_le.mp q1)]) rfl

theorem stK_14 (kf : KF) (t : Nat) (x v : Int32) (ht : t < 200) (hm : kg kf t 14 = -1 ∨ ∃ c, c ≤ 127 ∧ kg kf t 14 = nI c) : kg (stK kf t x v) t 14 = kg kf t 14 := by
  unfold stK
  split
  · rename_i q
    obtain ⟨j, c, hj, hc, -, rfl⟩ := sh_in hm q
    rw [nI_clamp (by omega)]
    exact upd_ne _ _ (by omega)
  · rfl
theorem sm9 {kf : KF} {t : Nat} {x : Int32} (hm : kg kf t 14 = -1 ∨ ∃ c, c ≤ 127 ∧ kg kf t 14 = nI c) : (smF kf t 9 x).2 = stK kf t x (kf 0) ∧ oc (smF kf t 9 x).1 = fsV kf t x := by
  unfold smF stK fsV
  rw [if_neg (by decide)]
  by_cases h : kg kf t 14 < 0
  · have hc : kg kf t 14 = -1 := hm.resolve_right (fun ⟨c, hc, e⟩ => by rw [e] at h; exact absurd h (nI_pos (by omega)))
    rw [if_pos h, if_pos h, sh_m hc, if_neg (by decide)]
    exact ⟨rfl, rfl⟩
  · rw [if_neg h, if_neg h]
    split
    · rw [if_pos rfl]
      exact ⟨rfl, rfl⟩
    · exact ⟨rfl, rfl⟩
theorem sm12 {kf : KF} {t : Nat} {x op : Int32} (h8 : ¬ op = 8) (h9 : ¬ op = 9) (h4 : kg kf t 4 = nI 0) (hm : kg kf t 14 = -1 ∨ ∃ c, c ≤ 127 ∧ kg kf t 14 = nI c) : (smF kf t op x).2 = ks kf t 4 (mxI (nI 0) (smV kf t x)) ∧ oc (smF kf t op x).1 = fsV kf t x := by
  unfold smF smV fsV
  rw [if_neg h8]
  by_cases h : kg kf t 14 < 0
  · have hc : kg kf t 14 = -1 := hm.resolve_right (fun ⟨c, hc, e⟩ => by rw [e] at h; exact absurd h (nI_pos (by omega)))
    rw [if_pos h, if_pos h, sh_m hc, if_neg (by decide)]
    exact ⟨(ks_self h4).symm, rfl⟩
  · rw [if_neg h, if_neg h]
    split
    · try rw [if_neg h9]
      dsimp only
      unfold mxI
      split
      · rename_i q
        rw [if_pos (show nI 0 < _ from q)]
        exact ⟨rfl, rfl⟩
      · rename_i q
        rw [if_neg (show ¬ nI 0 < _ from q)]
        exact ⟨(ks_self h4).symm, rfl⟩
    · exact ⟨(ks_self h4).symm, rfl⟩

set_option maxRecDepth 100000 in
set_option maxHeartbeats 4000000 in
theorem k_stamp (hq : KQ Z m Y ρ kf vf n) (hρ : 62000 ≤ ρ) {t : Nat} (ht : t < n) (hm : kg kf t 14 = -1 ∨ ∃ c, c ≤ 127 ∧ kg kf t 14 = nI c) (x : Int32) : EvC G 2 uX0_stamp [.ref (Y.1 0), .ref (Y.1 (9 + t)), .int x] m (fun r mm => r = some (.int (oc (smF kf t 9 x).1)) ∧ KQ Z mm Y ρ (smF kf t 9 x).2 vf n) := by
  refine EvC.of (by decide +kernel) (Nat.le_of_ble_eq_true rfl) ?_
  have hn2 := hq.n2
  refine r_go (fun kk => e_lvs (lv' := [(0, .ref (Y.1 0)), (1, .ref (Y.1 (9 + t))), (2, .int x)]) rfl kk) ?_
  refine r_go (fun kk => e_aload_n 1 dX0_stamp_0 rfl kk) ?_
  refine r_go (fun kk => e_iload_n 2 dX0_stamp_1 rfl kk) ?_
  refine r_go (fun kk => e_aload_n 0 dX0_stamp_2 rfl kk) ?_
  refine r_go (fun kk => e_getIv (kf 0) dX0_stamp_3 fl_X0_47 rfl (hq.T 0 (by decide)) hq.2.1.1.1 kk) ?_
  obtain ⟨_, m1, ⟨rfl, hq1⟩, E1x6⟩ := k_setShort (G := G) hq hρ ht hm x (kf 0)
  refine r_go (fun kk => e_callV (ci := 4) (st := []) (st1 := []) (As := [.int x, .int (kf 0)]) (E1x6) dX0_stamp_6 (by decide) cm_X4_setShort lk_X0_306 im_X4_setShort rfl sel_X4_setShort (hq.Tt (by omega)) rfl rfl (Nat.le_of_ble_eq_true rfl) rfl kk) ?_
  refine r_go (fun kk => e_aload_n 0 dX0_stamp_9 rfl kk) ?_
  refine r_go (fun kk => e_aload_n 1 dX0_stamp_10 rfl kk) ?_
  refine r_go (fun kk => e_iload_n 2 dX0_stamp_11 rfl kk) ?_
  refine r_go (fun kk => e_callV (ci := 0) (st := []) (st1 := [.int (fsV (stK kf t x (kf 0)) t x)]) (As := [.ref (Y.1 (9 + t)), .int x]) (k_findShort hq1 ht (by rw [stK_14 _ _ _ _ (by omega) hm]; exact hm) x) dX0_stamp_12 (by decide) cm_X0_findShort lk_X0_310 im_X0_findShort rfl sel_X0_findShort (hq1.T 0 (by decide)) rfl rfl (Nat.le_of_ble_eq_true rfl) rfl kk) ?_
  have e : fsV (stK kf t x (kf 0)) t x = fsV kf t x := by unfold fsV; rw [stK_14 _ _ _ _ (by omega) hm]
  exact r_ret ⟨by rw [(sm9 hm).2], by rw [(sm9 hm).1]; exact hq1⟩ (e_retI dX0_stamp_15 rfl rfl (by rw [e]))

set_option maxRecDepth 100000 in
set_option maxHeartbeats 4000000 in
theorem k_workByShort (hq : KQ Z m Y ρ kf vf n) (hρ : 62000 ≤ ρ) {t : Nat} (ht : t < n) (hm : kg kf t 14 = -1 ∨ ∃ c, c ≤ 127 ∧ kg kf t 14 = nI c) (h4 : kg kf t 4 = nI 0) {op : Int32} (h8 : ¬ op = 8) (h9 : ¬ op = 9) (x : Int32) : EvC G 2 uX0_workByShort [.ref (Y.1 0), .ref (Y.1 (9 + t)), .int x] m (fun r mm => r = some (.int (oc (smF kf t op x).1)) ∧ KQ Z mm Y ρ (smF kf t op x).2 vf n) := by
  refine EvC.of (by decide +kernel) (Nat.le_of_ble_eq_true rfl) ?_
  have hn2 := hq.n2
  refine r_go (fun kk => e_lvs (lv' := [(0, .ref (Y.1 0)), (1, .ref (Y.1 (9 + t))), (2, .int x)]) rfl kk) ?_
  refine r_go (fun kk => e_aload_n 1 dX0_workByShort_0 rfl kk) ?_
  refine r_go (fun kk => e_ic (nI 0) dX0_workByShort_1 (by decide) kk) ?_
  refine r_go (fun kk => e_aload_n 1 dX0_workByShort_2 rfl kk) ?_
  refine r_go (fun kk => e_iload_n 2 dX0_workByShort_3 rfl kk) ?_
  refine r_go (fun kk => e_callV (ci := 4) (st := [.int (nI 0), .ref (Y.1 (9 + t))]) (st1 := [.int (smV kf t x), .int (nI 0), .ref (Y.1 (9 + t))]) (As := [.int x]) (k_shortAt hq ht hm x) dX0_workByShort_4 (by decide) cm_X4_shortAt lk_X0_313 im_X4_shortAt rfl sel_X4_shortAt (hq.Tt (by omega)) rfl rfl (Nat.le_of_ble_eq_true rfl) rfl kk) ?_
  refine r_go (fun kk => e_jmax dX0_workByShort_7 lkm_X0_236 (Nat.le_of_ble_eq_true rfl) kk) ?_
  refine r_go (fun kk => e_putI (ci := 4) (k := 6) dX0_workByShort_10 fl_X0_216 rfl (fun q h => by cases h; rfl) ⟨rfl, rfl⟩ (hq.Tt (by omega)) kk) ?_
  refine r_gen (fun mm => KQ Z mm Y ρ (ks kf t 4 (mxI (nI 0) (smV kf t x))) vf n) (hq.t hρ (by omega) (by decide) rfl) (fun m1 hq1 => ?_)
  refine r_go (fun kk => e_aload_n 0 dX0_workByShort_13 rfl kk) ?_
  refine r_go (fun kk => e_aload_n 1 dX0_workByShort_14 rfl kk) ?_
  refine r_go (fun kk => e_iload_n 2 dX0_workByShort_15 rfl kk) ?_
  refine r_go (fun kk => e_callV (ci := 0) (st := []) (st1 := [.int (fsV (ks kf t 4 (mxI (nI 0) (smV kf t x))) t x)]) (As := [.ref (Y.1 (9 + t)), .int x]) (k_findShort hq1 ht (by rw [kg_ne _ _ _ _ _ _ (by decide) (by decide) (by decide)]; exact hm) x) dX0_workByShort_16 (by decide) cm_X0_findShort lk_X0_310 im_X0_findShort rfl sel_X0_findShort (hq1.T 0 (by decide)) rfl rfl (Nat.le_of_ble_eq_true rfl) rfl kk) ?_
  have e : fsV (ks kf t 4 (mxI (nI 0) (smV kf t x))) t x = fsV kf t x := by unfold fsV; rw [kg_ne _ _ _ _ _ _ (by decide) (by decide) (by decide)]
  exact r_ret ⟨by rw [(sm12 h8 h9 h4 hm).2], by rw [(sm12 h8 h9 h4 hm).1]; exact hq1⟩ (e_retI dX0_workByShort_19 rfl rfl (by rw [e]))

set_option maxRecDepth 100000 in
set_option maxHeartbeats 4000000 in
theorem k_getShorts (hq : KQ Z m Y ρ kf vf n) (hρ : 62000 ≤ ρ) {t : Nat} (ht : t < n) (hm : kg kf t 14 = -1 ∨ ∃ c, c ≤ 127 ∧ kg kf t 14 = nI c) {x : Int32} (hx : x ≤ nI 127) : EvC G 2 uX0_getShorts [.ref (Y.1 0), .ref (Y.1 (9 + t)), .int x] m (fun r mm => r = some (.int (oc (smF kf t 8 x).1)) ∧ ∃ Y2, Sm Y Y2 ∧ KQ Z mm Y2 ρ (smF kf t 8 x).2 vf n) := by
  refine EvC.of (by decide +kernel) (Nat.le_of_ble_eq_true rfl) ?_
  have hn2 := hq.n2
  refine r_go (fun kk => e_lvs (lv' := [(0, .ref (Y.1 0)), (1, .ref (Y.1 (9 + t))), (2, .int x)]) rfl kk) ?_
  refine r_go (fun kk => e_aload_n 1 dX0_getShorts_0 rfl kk) ?_
  refine r_go (fun kk => e_getIv (kg kf t 14) dX0_getShorts_1 fl_X0_296 rfl (hq.Tt (by omega)) (hq.gt (by omega) 14 _ (by decide) rfl) kk) ?_
  refine r_b1 (fun ka kb => e_if_lt 10 dX0_getShorts_4 (by decide) ka kb) (fun q1 => ?_) (fun q1 => ?_)
  · skip
    have q1' := Int32.not_le.mpr q1
    refine r_go (fun kk => e_iload_n 2 dX0_getShorts_10 rfl kk) ?_
    refine r_b1 (fun ka kb => e_if_ge 16 dX0_getShorts_11 (by decide) ka kb) (fun q2 => ?_) (fun q2 => ?_)
    · skip
      have q2' := Int32.not_lt.mpr q2
      obtain ⟨j, hj, rfl⟩ := nI_of (Int32.not_lt.mpr q2)
      have hj2 : j ≤ 127 := by have := by_le hx j rfl; omega
      have hc : kg kf t 14 = -1 := hm.resolve_right (fun ⟨c, hc, e⟩ => by rw [e] at q1; exact absurd q1 (nI_pos (by omega)))
      refine r_go (fun kk => e_aload_n 1 dX0_getShorts_16 rfl kk) ?_
      refine r_go (fun kk => e_iload_n 2 dX0_getShorts_17 rfl kk) ?_
      obtain ⟨_, m1, ⟨rfl, Y2, hS, hq1⟩, E1x18⟩ := k_makeShorts (G := G) hq hρ (b := j) ht hc hj2
      refine r_go (fun kk => e_callV (ci := 4) (st := []) (st1 := []) (As := [.int (nI j)]) (E1x18) dX0_getShorts_18 (by decide) cm_X4_makeShorts lk_X0_299 im_X4_makeShorts rfl sel_X4_makeShorts (hq.Tt (by omega)) rfl rfl (Nat.le_of_ble_eq_true rfl) rfl kk) ?_
      refine r_go (fun kk => e_ic ((-1)) dX0_getShorts_21 (by decide) kk) ?_
      exact r_ret ⟨by rw [smF, if_pos rfl, if_pos q1, if_neg (nI_pos hj)]; rfl, Y2, hS, by rw [smF, if_pos rfl, if_pos q1, if_neg (nI_pos hj), nI_clamp hj]; exact hq1⟩ (e_retI dX0_getShorts_22 rfl rfl rfl)
    · skip
      have q2' := Int32.not_le.mp q2
      refine r_go (fun kk => e_ic (nI 4) dX0_getShorts_14 (by decide) kk) ?_
      exact r_ret ⟨by rw [smF, if_pos rfl, if_pos q1, if_pos (Int32.not_le.mp q2)]; rfl, Y, Sm.rf Y, by rw [smF, if_pos rfl, if_pos q1, if_pos (Int32.not_le.mp q2)]; exact hq⟩ (e_retI dX0_getShorts_15 rfl rfl rfl)
  · skip
    have q1' := Int32.not_lt.mp q1
    refine r_go (fun kk => e_bipush (v := nI 11) dX0_getShorts_7 (by decide) kk) ?_
    exact r_ret ⟨by rw [smF, if_pos rfl, if_neg q1]; rfl, Y, Sm.rf Y, by rw [smF, if_pos rfl, if_neg q1]; exact hq⟩ (e_retI dX0_getShorts_9 rfl rfl rfl)

set_option maxRecDepth 100000 in
set_option maxHeartbeats 4000000 in
theorem k_spawnA (hq : KQ Z m Y ρ kf vf n) (hρ : 62000 ≤ ρ) {t : Nat} (ht : t < n) (hn3 : n < 200) (x : Int32) : EvC G 2 uX0_spawn [.ref (Y.1 0), .ref (Y.1 (9 + t)), .int x] m (fun r mm => r = some (.int (oc (fkF kf vf t x).1)) ∧ ∃ n2, n ≤ n2 ∧ KQ Z mm Y ρ (fkF kf vf t x).2.1 (fkF kf vf t x).2.2 n2) := by
  refine EvC.of (by decide +kernel) (Nat.le_of_ble_eq_true rfl) ?_
  have hn2 := hq.n2
  refine r_go (fun kk => e_lvs (lv' := [(0, .ref (Y.1 0)), (1, .ref (Y.1 (9 + t))), (2, .int x)]) rfl kk) ?_
  refine r_go (fun kk => e_iload_n 2 dX0_spawn_0 rfl kk) ?_
  refine r_b1 (fun ka kb => e_if_lt 10 dX0_spawn_1 (by decide) ka kb) (fun q1 => ?_) (fun q1 => ?_)
  · skip
    have q1' := Int32.not_le.mpr q1
    refine r_go (fun kk => e_bipush (v := nI 10) dX0_spawn_10 (by decide) kk) ?_
    have e : inI (x) (nI 0) (nI 31) = false := in_lt q1
    exact r_ret ⟨by rw [fkF, e, if_neg (by decide)]; rfl, n, Nat.le_refl n, by rw [fkF, e, if_neg (by decide)]; exact hq⟩ (e_retI dX0_spawn_12 rfl rfl rfl)
  · skip
    have q1' := Int32.not_lt.mp q1
    obtain ⟨j, hj, rfl⟩ := nI_of q1
    refine r_go (fun kk => e_iload_n 2 dX0_spawn_4 rfl kk) ?_
    refine r_go (fun kk => e_bipush (v := nI 32) dX0_spawn_5 (by decide) kk) ?_
    refine r_bm (fun ka kb => e_icmp_ltN 13 dX0_spawn_7 (by decide) (by omega) (by omega) ka kb) (fun q2 => ?_) (fun q2 => ?_)
    · skip
      have q2' := Nat.not_le.mpr q2
      refine r_go (fun kk => e_aload_n 0 dX0_spawn_13 rfl kk) ?_
      refine r_go (fun kk => e_aload_n 0 dX0_spawn_14 rfl kk) ?_
      refine r_go (fun kk => e_aload_n 1 dX0_spawn_15 rfl kk) ?_
      refine r_go (fun kk => e_getIv (kg kf t 0) dX0_spawn_16 fl_X0_204 rfl (hq.Tt (by omega)) (hq.gt (by omega) 0 _ (by decide) rfl) kk) ?_
      refine r_go (fun kk => e_iload_n 2 dX0_spawn_19 rfl kk) ?_
      refine r_go (fun kk => e_aload_n 1 dX0_spawn_20 rfl kk) ?_
      refine r_go (fun kk => e_getIv (kg kf t 2) dX0_spawn_21 fl_X0_289 rfl (hq.Tt (by omega)) (hq.gt (by omega) 2 _ (by decide) rfl) kk) ?_
      obtain ⟨_, m1, ⟨rfl, hq1⟩, E1x24⟩ := k_addTask (G := G) hq hρ hn3 (kg kf t 0) (nI j) (kg kf t 2)
      refine r_go (fun kk => e_callV (ci := 0) (st := [.ref (Y.1 0)]) (st1 := [.int (nI n), .ref (Y.1 0)]) (As := [.int (kg kf t 0), .int (nI j), .int (kg kf t 2)]) (E1x24) dX0_spawn_24 (by decide) cm_X0_addTask lk_X0_292 im_X0_addTask rfl sel_X0_addTask (hq.T 0 (by decide)) rfl rfl (Nat.le_of_ble_eq_true rfl) rfl kk) ?_
      refine r_go (fun kk => e_callV (ci := 0) (st := []) (st1 := [.ref (Y.1 (9 + n))]) (As := [.int (nI n)]) (k_taskAt hq1 (j := n) (by omega)) dX0_spawn_27 (by decide) cm_X0_taskAt lk_X0_89 im_X0_taskAt rfl sel_X0_taskAt (hq1.T 0 (by decide)) rfl rfl (Nat.le_of_ble_eq_true rfl) rfl kk) ?_
      refine r_go (fun kk => e_astore_n (lv' := [(3, .ref (Y.1 (9 + n))), (0, .ref (Y.1 0)), (1, .ref (Y.1 (9 + t))), (2, .int (nI j))]) dX0_spawn_30 (by decide) rfl kk) ?_
      refine r_go (fun kk => e_aload_n 0 dX0_spawn_31 rfl kk) ?_
      refine r_go (fun kk => e_ifnonnull 38 dX0_spawn_32 (by decide) kk) ?_
      refine r_go (fun kk => e_aload_n 0 dX0_spawn_38 rfl kk) ?_
      refine r_go (fun kk => e_aload_n 2 dX0_spawn_39 rfl kk) ?_
      refine r_go (fun kk => e_getIv (kg (adK kf n (kg kf t 0) (nI j) (kg kf t 2) (nI 100) (nI 0)) t 10) dX0_spawn_40 fl_X0_153 rfl (hq1.Tt (by omega)) (hq1.gt (by omega) 10 _ (by decide) rfl) kk) ?_
      refine r_go (fun kk => e_aload_n 2 dX0_spawn_43 rfl kk) ?_
      refine r_go (fun kk => e_getIv (kg (adK kf n (kg kf t 0) (nI j) (kg kf t 2) (nI 100) (nI 0)) t 11) dX0_spawn_44 fl_X0_156 rfl (hq1.Tt (by omega)) (hq1.gt (by omega) 11 _ (by decide) rfl) kk) ?_
      refine r_go (fun kk => e_aload_n 1 dX0_spawn_47 rfl kk) ?_
      refine r_go (fun kk => e_getIv ((adK kf n (kg kf t 0) (nI j) (kg kf t 2) (nI 100) (nI 0)) 0) dX0_spawn_48 fl_X0_47 rfl (hq1.T 0 (by decide)) hq1.2.1.1.1 kk) ?_
      obtain ⟨_, m2, ⟨rfl, hq2⟩, E2x51⟩ := k_startPeriod (G := G) hq1 hρ (t := n) (by omega) (kg (adK kf n (kg kf t 0) (nI j) (kg kf t 2) (nI 100) (nI 0)) t 10) (kg (adK kf n (kg kf t 0) (nI j) (kg kf t 2) (nI 100) (nI 0)) t 11) ((adK kf n (kg kf t 0) (nI j) (kg kf t 2) (nI 100) (nI 0)) 0)
      refine r_go (fun kk => e_callV (ci := 4) (st := []) (st1 := []) (As := [.int (kg (adK kf n (kg kf t 0) (nI j) (kg kf t 2) (nI 100) (nI 0)) t 10), .int (kg (adK kf n (kg kf t 0) (nI j) (kg kf t 2) (nI 100) (nI 0)) t 11), .int ((adK kf n (kg kf t 0) (nI j) (kg kf t 2) (nI 100) (nI 0)) 0)]) (E2x51) dX0_spawn_51 (by decide) cm_X4_startPeriod lk_X0_104 im_X4_startPeriod rfl sel_X4_startPeriod (hq1.Tt (by omega)) rfl rfl (Nat.le_of_ble_eq_true rfl) rfl kk) ?_
      refine r_go (fun kk => e_ic ((-1)) dX0_spawn_54 (by decide) kk) ?_
      have e : inI (nI j) (nI 0) (nI 31) = true := inI_of (by omega) (by omega) (by decide)
      have e2 : ¬ kf 1 = 200 := by rw [hq.n1]; exact fun z => absurd ((nI_eq (a := n) (b := 200) (by omega) (by decide)).mp z) (by omega)
      have hfin := hq2
      rw [show kg (adK kf n (kg kf t 0) (nI j) (kg kf t 2) (nI 100) (nI 0)) t 10 = kg kf t 10 from adK_at _ _ _ _ _ _ _ _ (by omega) (by omega), show kg (adK kf n (kg kf t 0) (nI j) (kg kf t 2) (nI 100) (nI 0)) t 11 = kg kf t 11 from adK_at _ _ _ _ _ _ _ _ (by omega) (by omega), show (adK kf n (kg kf t 0) (nI j) (kg kf t 2) (nI 100) (nI 0)) 0 = kf 0 from adK_at _ _ _ _ _ _ _ _ (by omega) (by omega), adK_sp] at hfin
      exact r_ret ⟨by rw [fkF, if_pos e, if_neg e2]; rfl, n + 1, Nat.le_succ n, by rw [fkF, if_pos e, if_neg e2, nT_of hq.n1 hn2]; exact hfin⟩ (e_retI dX0_spawn_55 rfl rfl rfl)
    · skip
      have q2' := Nat.not_lt.mpr q2
      refine r_go (fun kk => e_bipush (v := nI 10) dX0_spawn_10 (by decide) kk) ?_
      have e : inI (nI j) (nI 0) (nI 31) = false := in_ge (by omega) (by decide) (by omega)
      exact r_ret ⟨by rw [fkF, e, if_neg (by decide)]; rfl, n, Nat.le_refl n, by rw [fkF, e, if_neg (by decide)]; exact hq⟩ (e_retI dX0_spawn_12 rfl rfl rfl)

set_option maxRecDepth 100000 in
set_option maxHeartbeats 4000000 in
theorem k_spawnB (hq : KQ Z m Y ρ kf vf n) (hρ : 62000 ≤ ρ) {t : Nat} (ht : t < n) (hn3 : n = 200) (x : Int32) : EvC G 2 uX0_spawn [.ref (Y.1 0), .ref (Y.1 (9 + t)), .int x] m (fun r mm => r = some (.int (oc (fkF kf vf t x).1)) ∧ ∃ n2, n ≤ n2 ∧ KQ Z mm Y ρ (fkF kf vf t x).2.1 (fkF kf vf t x).2.2 n2) := by
  refine EvC.of (by decide +kernel) (Nat.le_of_ble_eq_true rfl) ?_
  have hn2 := hq.n2
  have hneg : tIn kf (-1) = false := Bool.eq_false_iff.mpr (fun q => by
    obtain ⟨i, hi, e⟩ := tIn_n hq.n1 hn2 q
    have := nI_pos' (n := i) (by omega)
    rw [← e] at this
    exact absurd this (by decide))
  refine r_go (fun kk => e_lvs (lv' := [(0, .ref (Y.1 0)), (1, .ref (Y.1 (9 + t))), (2, .int x)]) rfl kk) ?_
  refine r_go (fun kk => e_iload_n 2 dX0_spawn_0 rfl kk) ?_
  refine r_b1 (fun ka kb => e_if_lt 10 dX0_spawn_1 (by decide) ka kb) (fun q1 => ?_) (fun q1 => ?_)
  · skip
    have q1' := Int32.not_le.mpr q1
    refine r_go (fun kk => e_bipush (v := nI 10) dX0_spawn_10 (by decide) kk) ?_
    have e : inI (x) (nI 0) (nI 31) = false := in_lt q1
    exact r_ret ⟨by rw [fkF, e, if_neg (by decide)]; rfl, n, Nat.le_refl n, by rw [fkF, e, if_neg (by decide)]; exact hq⟩ (e_retI dX0_spawn_12 rfl rfl rfl)
  · skip
    have q1' := Int32.not_lt.mp q1
    obtain ⟨j, hj, rfl⟩ := nI_of q1
    refine r_go (fun kk => e_iload_n 2 dX0_spawn_4 rfl kk) ?_
    refine r_go (fun kk => e_bipush (v := nI 32) dX0_spawn_5 (by decide) kk) ?_
    refine r_bm (fun ka kb => e_icmp_ltN 13 dX0_spawn_7 (by decide) (by omega) (by omega) ka kb) (fun q2 => ?_) (fun q2 => ?_)
    · skip
      have q2' := Nat.not_le.mpr q2
      refine r_go (fun kk => e_aload_n 0 dX0_spawn_13 rfl kk) ?_
      refine r_go (fun kk => e_aload_n 0 dX0_spawn_14 rfl kk) ?_
      refine r_go (fun kk => e_aload_n 1 dX0_spawn_15 rfl kk) ?_
      refine r_go (fun kk => e_getIv (kg kf t 0) dX0_spawn_16 fl_X0_204 rfl (hq.Tt (by omega)) (hq.gt (by omega) 0 _ (by decide) rfl) kk) ?_
      refine r_go (fun kk => e_iload_n 2 dX0_spawn_19 rfl kk) ?_
      refine r_go (fun kk => e_aload_n 1 dX0_spawn_20 rfl kk) ?_
      refine r_go (fun kk => e_getIv (kg kf t 2) dX0_spawn_21 fl_X0_289 rfl (hq.Tt (by omega)) (hq.gt (by omega) 2 _ (by decide) rfl) kk) ?_
      refine r_go (fun kk => e_callV (ci := 0) (st := [.ref (Y.1 0)]) (st1 := [.int (-1), .ref (Y.1 0)]) (As := [.int (kg kf t 0), .int (nI j), .int (kg kf t 2)]) (k_addTaskF hq hn3 (kg kf t 0) (nI j) (kg kf t 2)) dX0_spawn_24 (by decide) cm_X0_addTask lk_X0_292 im_X0_addTask rfl sel_X0_addTask (hq.T 0 (by decide)) rfl rfl (Nat.le_of_ble_eq_true rfl) rfl kk) ?_
      refine r_go (fun kk => e_callV (ci := 0) (st := []) (st1 := [.null]) (As := [.int (-1)]) (k_taskAtN hq (x := -1) hneg) dX0_spawn_27 (by decide) cm_X0_taskAt lk_X0_89 im_X0_taskAt rfl sel_X0_taskAt (hq.T 0 (by decide)) rfl rfl (Nat.le_of_ble_eq_true rfl) rfl kk) ?_
      refine r_go (fun kk => e_astore_nN (lv' := [(3, .null), (0, .ref (Y.1 0)), (1, .ref (Y.1 (9 + t))), (2, .int (nI j))]) dX0_spawn_30 (by decide) rfl kk) ?_
      refine r_go (fun kk => e_aload_nN 0 dX0_spawn_31 rfl kk) ?_
      refine r_go (fun kk => e_ifnonnullN dX0_spawn_32 kk) ?_
      refine r_go (fun kk => e_bipush (v := nI 11) dX0_spawn_35 (by decide) kk) ?_
      have e : inI (nI j) (nI 0) (nI 31) = true := inI_of (by omega) (by omega) (by decide)
      have e2 : kf 1 = 200 := by rw [hq.n1, hn3]; rfl
      exact r_ret ⟨by rw [fkF, if_pos e, if_pos e2]; rfl, n, Nat.le_refl n, by rw [fkF, if_pos e, if_pos e2]; exact hq⟩ (e_retI dX0_spawn_37 rfl rfl rfl)
    · skip
      have q2' := Nat.not_lt.mpr q2
      refine r_go (fun kk => e_bipush (v := nI 10) dX0_spawn_10 (by decide) kk) ?_
      have e : inI (nI j) (nI 0) (nI 31) = false := in_ge (by omega) (by decide) (by omega)
      exact r_ret ⟨by rw [fkF, e, if_neg (by decide)]; rfl, n, Nat.le_refl n, by rw [fkF, e, if_neg (by decide)]; exact hq⟩ (e_retI dX0_spawn_12 rfl rfl rfl)

end Class8
