/-! the class: more calls that are noted -/
theorem plen_6 {kf : KF} {p : Nat} {x : Int32} : plen (upd kf 6 x) p = plen kf p := by unfold plen; rw [upd_ne _ _ (by omega)]
theorem kg_6 {kf : KF} {t w : Nat} {x : Int32} : kg (upd kf 6 x) t w = kg kf t w := upd_ne _ _ (by omega)
theorem due_6 {kf : KF} {t : Nat} {x : Int32} : isDue (upd kf 6 x) t = isDue kf t := by unfold isDue; rw [kg_6]
theorem kg_rf {kf : KF} {w : Int32} (t v : Nat) : kg (rfK kf w) t v = kg kf t v := kg_rfK t v
section Class30
variable {G : GG} {m : Mem} {o : Nat → Nat} {F : Nat} {YL : YY} {AN : Nat × Nat × Nat} {kf : KF} {vf : VF} {n s : Nat} {nf : Nat → Int64}

set_option maxRecDepth 100000 in
set_option maxHeartbeats 4000000 in
theorem t5_proc1 (hC : CW m o F YL AN kf vf n s nf) {x : Int32} (hx : inI x (nI 1) (nI 4) = false) : Ev G 4 uX5_processors [.ref F, .int x] m (some (.int (-1))) (sI m 105 F (nI 1)) := by
  refine Ev.of (by decide +kernel) (Nat.le_of_ble_eq_true rfl) ?_
  refine e_lvs (lv' := [(0, .ref F), (1, .int x)]) rfl ?_
  refine e_iload_n 1 dX5_processors_0 rfl ?_
  refine e_ic (nI 1) dX5_processors_1 (by decide) ?_
  refine e_iv (w := 1) rfl ?_
  refine e_icmp_lt 10 dX5_processors_2 (by decide) (fun q2 => ?_) (fun q2 => ?_)
  · skip
    have q2' := Int32.not_le.mpr q2
    refine e_aload_n 0 dX5_processors_10 rfl ?_
    refine e_ic (nI 1) dX5_processors_11 (by decide) ?_
    refine e_callV (ci := 5) (st := []) (st1 := [.int (-1)]) (As := [.int (nI 1)]) (k_refused (G := G) hC.1.1 (nI 1)) dX5_processors_12 (by decide) cm_X5_refused lk_X5_43 im_X5_refused rfl sel_X5_refused hC.1.1 rfl rfl (Nat.le_of_ble_eq_true rfl) rfl ?_
    exact e_retI dX5_processors_15 rfl rfl rfl
  · skip
    have q2' := Int32.not_lt.mp q2
    refine e_iload_n 1 dX5_processors_5 rfl ?_
    refine e_ic (nI 4) dX5_processors_6 (by decide) ?_
    refine e_iv (w := 4) rfl ?_
    refine e_icmp_le 16 dX5_processors_7 (by decide) (fun q7 => ?_) (fun q7 => ?_)
    · skip
      have q7' := Int32.not_lt.mpr q7
      exact absurd (show inI x (nI 1) (nI 4) = true from decide_eq_true ⟨Int32.not_lt.mp q2, q7⟩) (by rw [hx]; decide)
    · skip
      have q7' := Int32.not_le.mp q7
      refine e_aload_n 0 dX5_processors_10 rfl ?_
      refine e_ic (nI 1) dX5_processors_11 (by decide) ?_
      refine e_callV (ci := 5) (st := []) (st1 := [.int (-1)]) (As := [.int (nI 1)]) (k_refused (G := G) hC.1.1 (nI 1)) dX5_processors_12 (by decide) cm_X5_refused lk_X5_43 im_X5_refused rfl sel_X5_refused hC.1.1 rfl rfl (Nat.le_of_ble_eq_true rfl) rfl ?_
      exact e_retI dX5_processors_15 rfl rfl rfl

set_option maxRecDepth 100000 in
set_option maxHeartbeats 4000000 in
theorem t5_proc3 (hC : CW m o F YL AN kf vf n s nf) {p1 : Nat} (hp1 : 1 ≤ p1) (hp : p1 ≤ 4) (hs9 : s = 1000) : Ev G 4 uX5_processors [.ref F, .int (nI p1)] m (some (.int (-1))) (sI m 105 F (nI 5)) := by
  refine Ev.of (by decide +kernel) (Nat.le_of_ble_eq_true rfl) ?_
  refine e_lvs (lv' := [(0, .ref F), (1, .int (nI p1))]) rfl ?_
  refine e_iload_n 1 dX5_processors_0 rfl ?_
  refine e_ic (nI 1) dX5_processors_1 (by decide) ?_
  refine e_icmp_ltN 10 dX5_processors_2 (by decide) (by omega) (by omega) (fun h => absurd h (by omega)) (fun _ => ?_)
  refine e_iload_n 1 dX5_processors_5 rfl ?_
  refine e_ic (nI 4) dX5_processors_6 (by decide) ?_
  refine e_icmp_leN 16 dX5_processors_7 (by decide) (by omega) (by omega) (fun _ => ?_) (fun h => absurd h (by omega))
  refine e_aload_n 0 dX5_processors_16 rfl ?_
  refine e_ic (nI 4) dX5_processors_17 (by decide) ?_
  refine e_iload_n 1 dX5_processors_18 rfl ?_
  refine e_i2lN dX5_processors_19 (by omega) ?_
  refine e_lconst (v := lN 0) dX5_processors_20 (by decide) ?_
  refine e_lconst (v := lN 0) dX5_processors_21 (by decide) ?_
  refine e_callV (ci := 5) (st := []) (st1 := [.int (nI 0)]) (As := [.int (nI 4), .long (lN p1), .long (lN 0), .long (lN 0)]) (k_noted0 (G := G) hC hs9 (nI 4) (lN p1) (lN 0) (lN 0)) dX5_processors_22 (by decide) cm_X5_noted lk_X5_53 im_X5_noted rfl sel_X5_noted hC.1.1 rfl rfl (Nat.le_of_ble_eq_true rfl) rfl ?_
  refine e_if_eq 39 dX5_processors_25 (by decide) (fun _ => ?_) (fun h => absurd h (by decide))
  refine e_ic ((-1)) dX5_processors_39 (by decide) ?_
  exact e_retI dX5_processors_40 rfl rfl rfl

set_option maxRecDepth 100000 in
set_option maxHeartbeats 4000000 in
theorem t5_proc4 (hC : CW m o F YL AN kf vf n s nf) (hS : SN kf vf n s) (hH : HI nf s kf vf n) (hs9 : s < 1000) {p1 : Nat} (hp1 : 1 ≤ p1) (hp : p1 ≤ 4) : EvC G 4 uX5_processors [.ref F, .int (nI p1)] m (fun r mm => r = some (.int (kf 2)) ∧ PM m o F YL AN mm (upd (upd kf 6 (nI (s + 1))) 2 (nI p1)) vf (nI 0)) := by
  refine EvC.of (by decide +kernel) (Nat.le_of_ble_eq_true rfl) ?_
  have hq := hC.2.2.2.1.q
  obtain ⟨k1, hk1⟩ : ∃ k1, k1 = upd kf 6 (nI (s + 1)) := ⟨_, rfl⟩
  have hS1 : SN k1 vf n s := by rw [hk1]; exact hS.six _
  have hn2 := hq.n2
  refine r_go (fun kk => e_lvs (lv' := [(0, .ref F), (1, .int (nI p1))]) rfl kk) ?_
  refine r_go (fun kk => e_iload_n 1 dX5_processors_0 rfl kk) ?_
  refine r_go (fun kk => e_ic (nI 1) dX5_processors_1 (by decide) kk) ?_
  refine r_go (fun kk => e_icmp_ltN 10 dX5_processors_2 (by decide) (by omega) (by omega) (fun h => absurd h (by omega)) (fun _ => kk)) ?_
  refine r_go (fun kk => e_iload_n 1 dX5_processors_5 rfl kk) ?_
  refine r_go (fun kk => e_ic (nI 4) dX5_processors_6 (by decide) kk) ?_
  refine r_go (fun kk => e_icmp_leN 16 dX5_processors_7 (by decide) (by omega) (by omega) (fun _ => kk) (fun h => absurd h (by omega))) ?_
  refine r_go (fun kk => e_aload_n 0 dX5_processors_16 rfl kk) ?_
  refine r_go (fun kk => e_ic (nI 4) dX5_processors_17 (by decide) kk) ?_
  refine r_go (fun kk => e_iload_n 1 dX5_processors_18 rfl kk) ?_
  refine r_go (fun kk => e_i2lN dX5_processors_19 (by omega) kk) ?_
  refine r_go (fun kk => e_lconst (v := lN 0) dX5_processors_20 (by decide) kk) ?_
  refine r_go (fun kk => e_lconst (v := lN 0) dX5_processors_21 (by decide) kk) ?_
  obtain ⟨_, m1, ⟨rfl, o1, A1, hC1, hR1, hs1⟩, E0x22⟩ := k_noted1 (G := G) hC hs9 (nI 4) (lN p1) (lN 0) (lN 0)
  refine r_go (fun kk => e_callV (ci := 5) (st := []) (st1 := [.int (nI 1)]) (As := [.int (nI 4), .long (lN p1), .long (lN 0), .long (lN 0)]) (E0x22) dX5_processors_22 (by decide) cm_X5_noted lk_X5_53 im_X5_noted rfl sel_X5_noted hC.1.1 rfl rfl (Nat.le_of_ble_eq_true rfl) rfl kk) ?_
  rw [← hk1] at hC1
  have hq1 := hC1.2.2.2.1.q
  refine r_go (fun kk => e_if_eq 39 dX5_processors_25 (by decide) (fun h => absurd h (by decide)) (fun _ => kk)) ?_
  refine r_go (fun kk => e_aload_n 0 dX5_processors_28 rfl kk) ?_
  refine r_go (fun kk => e_getP (some (YL.1 0)) dX5_processors_29 fl_X5_12 rfl hC1.1.1 hC1.2.1.1 kk) ?_
  refine r_go (fun kk => e_iload_n 1 dX5_processors_32 rfl kk) ?_
  obtain ⟨_, m2, ⟨rfl, hq2⟩, E0x33⟩ := k_changeProcessors (G := G) hq1 (by omega) (nI p1)
  refine r_go (fun kk => e_callV (ci := 0) (st := []) (st1 := [.int (k1 2)]) (As := [.int (nI p1)]) (E0x33) dX5_processors_33 (by decide) cm_X0_changeProcessors lk_X5_92 im_X0_changeProcessors rfl sel_X0_changeProcessors (hq1.T 0 (by decide)) rfl rfl (Nat.le_of_ble_eq_true rfl) rfl kk) ?_
  refine r_go (fun kk => e_goto 40 dX5_processors_36 (by decide) kk) ?_
  exact r_ret ⟨by rw [hk1, upd_ne _ _ (by omega)], by rw [← hk1]; exact PM.mk hS hH hk1 hC1 hR1 hs1 hq2 rfl (upd_ne _ _ (by omega)) ((sn_proc hS1 hp1 hp).up (by omega)) (Or.inr (Or.inr (Or.inr (Or.inr (Or.inl ⟨nI p1, nI_l (by omega), (nI_l (by omega)).symm, rfl, rfl, rfl⟩)))))⟩ (e_retI dX5_processors_40 rfl rfl rfl)

theorem k5_processors (hC : CW m o F YL AN kf vf n s nf) (hS : SN kf vf n s) (hH : HI nf s kf vf n) (x : Int32) : EvC G 4 uX5_processors [.ref F, .int x] m (fun r mm => r = some (.int (procR kf x)) ∧ PM m o F YL AN mm (procK kf x) vf (rfs kf (whyProc x))) := by
  have hq := hC.2.2.2.1.q
  have hn2 := hq.n2
  have h6 := hC.2.2.2.2.2
  have hs := hC.2.2.2.2.1.2.2.2.2.1
  by_cases hx : inI x (nI 1) (nI 4) = true
  · have hw : whyProc x = nI 0 := by unfold whyProc; rw [if_pos hx]
    obtain ⟨p1, hp1, hp, rfl⟩ := inI_n (by decide) (by decide) hx
    by_cases h9 : s = 1000
    · obtain ⟨e1, e2, e3⟩ := rf_full (kf := kf) (by rw [h6, h9])
      unfold procR procK
      rw [hw, e1, e2, e3]
      exact EvC.ex (t5_proc3 hC hp1 hp h9) ⟨rfl, PM.ref hC hS hH _⟩
    · skip
      obtain ⟨e1, e2, e3⟩ := rf_ok h6 (by omega)
      unfold procR procK
      rw [hw, e1, e2, e3]
      refine (t5_proc4 hC hS hH (by omega) hp1 hp).mono (fun r m' h => ?_)
      rw [if_neg (by decide), if_neg (by decide)]
      exact h
  · rw [Bool.not_eq_true] at hx
    have hw : whyProc x = nI 1 := by unfold whyProc; rw [if_neg (by rw [hx]; decide)]
    obtain ⟨e1, e2, e3⟩ := rf_no (kf := kf) (w := nI 1) (by decide)
    unfold procR procK
    rw [hw, e1, e2, e3]
    exact EvC.ex (t5_proc1 hC hx) ⟨rfl, PM.ref hC hS hH _⟩

set_option maxRecDepth 100000 in
set_option maxHeartbeats 4000000 in
theorem t5_ring1 (hC : CW m o F YL AN kf vf n s nf) {x : Int32} (hx : inI x (nI 0) (nI 15) = false) : Ev G 4 uX5_ring [.ref F, .int x] m (some (.int (-1))) (sI m 105 F (nI 1)) := by
  refine Ev.of (by decide +kernel) (Nat.le_of_ble_eq_true rfl) ?_
  refine e_lvs (lv' := [(0, .ref F), (1, .int x)]) rfl ?_
  refine e_iload_n 1 dX5_ring_0 rfl ?_
  refine e_if_lt 10 dX5_ring_1 (by decide) (fun h1 => ?_) (fun h1 => ?_)
  · skip
    have h1' := Int32.not_le.mpr h1
    refine e_aload_n 0 dX5_ring_10 rfl ?_
    refine e_ic (nI 1) dX5_ring_11 (by decide) ?_
    refine e_callV (ci := 5) (st := []) (st1 := [.int (-1)]) (As := [.int (nI 1)]) (k_refused (G := G) hC.1.1 (nI 1)) dX5_ring_12 (by decide) cm_X5_refused lk_X5_43 im_X5_refused rfl sel_X5_refused hC.1.1 rfl rfl (Nat.le_of_ble_eq_true rfl) rfl ?_
    exact e_retI dX5_ring_15 rfl rfl rfl
  · skip
    have h1' := Int32.not_lt.mp h1
    obtain ⟨j1, hj1, rfl⟩ := nI_of h1
    refine e_iload_n 1 dX5_ring_4 rfl ?_
    refine e_bipush (v := nI 16) dX5_ring_5 (by decide) ?_
    refine e_icmp_ltN 16 dX5_ring_7 (by decide) (by omega) (by omega) (fun q7 => ?_) (fun q7 => ?_)
    · skip
      have q7' := Nat.not_le.mpr q7
      exact absurd (inI_of (j := j1) (a := 0) (b := 15) (by omega) (by omega) (by decide)) (by rw [hx]; decide)
    · skip
      have q7' := Nat.not_lt.mpr q7
      refine e_aload_n 0 dX5_ring_10 rfl ?_
      refine e_ic (nI 1) dX5_ring_11 (by decide) ?_
      refine e_callV (ci := 5) (st := []) (st1 := [.int (-1)]) (As := [.int (nI 1)]) (k_refused (G := G) hC.1.1 (nI 1)) dX5_ring_12 (by decide) cm_X5_refused lk_X5_43 im_X5_refused rfl sel_X5_refused hC.1.1 rfl rfl (Nat.le_of_ble_eq_true rfl) rfl ?_
      exact e_retI dX5_ring_15 rfl rfl rfl

set_option maxRecDepth 100000 in
set_option maxHeartbeats 4000000 in
theorem t5_ring3 (hC : CW m o F YL AN kf vf n s nf) {p1 : Nat} (hp : p1 ≤ 15) (hs9 : s = 1000) : Ev G 4 uX5_ring [.ref F, .int (nI p1)] m (some (.int (-1))) (sI m 105 F (nI 5)) := by
  refine Ev.of (by decide +kernel) (Nat.le_of_ble_eq_true rfl) ?_
  refine e_lvs (lv' := [(0, .ref F), (1, .int (nI p1))]) rfl ?_
  refine e_iload_n 1 dX5_ring_0 rfl ?_
  refine e_if_lt 10 dX5_ring_1 (by decide) (fun h => absurd h (nI_pos (by omega))) (fun _ => ?_)
  refine e_iload_n 1 dX5_ring_4 rfl ?_
  refine e_bipush (v := nI 16) dX5_ring_5 (by decide) ?_
  refine e_icmp_ltN 16 dX5_ring_7 (by decide) (by omega) (by omega) (fun _ => ?_) (fun h => absurd h (by omega))
  refine e_aload_n 0 dX5_ring_16 rfl ?_
  refine e_bipush (v := nI 6) dX5_ring_17 (by decide) ?_
  refine e_iload_n 1 dX5_ring_19 rfl ?_
  refine e_i2lN dX5_ring_20 (by omega) ?_
  refine e_lconst (v := lN 0) dX5_ring_21 (by decide) ?_
  refine e_lconst (v := lN 0) dX5_ring_22 (by decide) ?_
  refine e_callV (ci := 5) (st := []) (st1 := [.int (nI 0)]) (As := [.int (nI 6), .long (lN p1), .long (lN 0), .long (lN 0)]) (k_noted0 (G := G) hC hs9 (nI 6) (lN p1) (lN 0) (lN 0)) dX5_ring_23 (by decide) cm_X5_noted lk_X5_53 im_X5_noted rfl sel_X5_noted hC.1.1 rfl rfl (Nat.le_of_ble_eq_true rfl) rfl ?_
  refine e_if_eq 40 dX5_ring_26 (by decide) (fun _ => ?_) (fun h => absurd h (by decide))
  refine e_ic ((-1)) dX5_ring_40 (by decide) ?_
  exact e_retI dX5_ring_41 rfl rfl rfl

set_option maxRecDepth 100000 in
set_option maxHeartbeats 4000000 in
theorem t5_ring4 (hC : CW m o F YL AN kf vf n s nf) (hS : SN kf vf n s) (hH : HI nf s kf vf n) (hs9 : s < 1000) {p1 : Nat} (hp : p1 ≤ 15) : EvC G 4 uX5_ring [.ref F, .int (nI p1)] m (fun r mm => r = some (.int (nI (rgF (upd kf 6 (nI (s + 1))) (nI p1)).2)) ∧ PM m o F YL AN mm ((rgF (upd kf 6 (nI (s + 1))) (nI p1)).1) vf (nI 0)) := by
  refine EvC.of (by decide +kernel) (Nat.le_of_ble_eq_true rfl) ?_
  have hq := hC.2.2.2.1.q
  obtain ⟨k1, hk1⟩ : ∃ k1, k1 = upd kf 6 (nI (s + 1)) := ⟨_, rfl⟩
  have hS1 : SN k1 vf n s := by rw [hk1]; exact hS.six _
  have hn2 := hq.n2
  refine r_go (fun kk => e_lvs (lv' := [(0, .ref F), (1, .int (nI p1))]) rfl kk) ?_
  refine r_go (fun kk => e_iload_n 1 dX5_ring_0 rfl kk) ?_
  refine r_go (fun kk => e_if_lt 10 dX5_ring_1 (by decide) (fun h => absurd h (nI_pos (by omega))) (fun _ => kk)) ?_
  refine r_go (fun kk => e_iload_n 1 dX5_ring_4 rfl kk) ?_
  refine r_go (fun kk => e_bipush (v := nI 16) dX5_ring_5 (by decide) kk) ?_
  refine r_go (fun kk => e_icmp_ltN 16 dX5_ring_7 (by decide) (by omega) (by omega) (fun _ => kk) (fun h => absurd h (by omega))) ?_
  refine r_go (fun kk => e_aload_n 0 dX5_ring_16 rfl kk) ?_
  refine r_go (fun kk => e_bipush (v := nI 6) dX5_ring_17 (by decide) kk) ?_
  refine r_go (fun kk => e_iload_n 1 dX5_ring_19 rfl kk) ?_
  refine r_go (fun kk => e_i2lN dX5_ring_20 (by omega) kk) ?_
  refine r_go (fun kk => e_lconst (v := lN 0) dX5_ring_21 (by decide) kk) ?_
  refine r_go (fun kk => e_lconst (v := lN 0) dX5_ring_22 (by decide) kk) ?_
  obtain ⟨_, m1, ⟨rfl, o1, A1, hC1, hR1, hs1⟩, E0x23⟩ := k_noted1 (G := G) hC hs9 (nI 6) (lN p1) (lN 0) (lN 0)
  refine r_go (fun kk => e_callV (ci := 5) (st := []) (st1 := [.int (nI 1)]) (As := [.int (nI 6), .long (lN p1), .long (lN 0), .long (lN 0)]) (E0x23) dX5_ring_23 (by decide) cm_X5_noted lk_X5_53 im_X5_noted rfl sel_X5_noted hC.1.1 rfl rfl (Nat.le_of_ble_eq_true rfl) rfl kk) ?_
  rw [← hk1] at hC1
  have hq1 := hC1.2.2.2.1.q
  refine r_go (fun kk => e_if_eq 40 dX5_ring_26 (by decide) (fun h => absurd h (by decide)) (fun _ => kk)) ?_
  refine r_go (fun kk => e_aload_n 0 dX5_ring_29 rfl kk) ?_
  refine r_go (fun kk => e_getP (some (YL.1 0)) dX5_ring_30 fl_X5_12 rfl hC1.1.1 hC1.2.1.1 kk) ?_
  refine r_go (fun kk => e_iload_n 1 dX5_ring_33 rfl kk) ?_
  obtain ⟨_, m2, ⟨c, rfl, rfl, hq2⟩, E0x34⟩ := k_ringBell (G := G) hq1 (by omega) (nI p1)
  refine r_go (fun kk => e_callV (ci := 0) (st := []) (st1 := [.int (nI ((rgF k1 (nI p1)).2))]) (As := [.int (nI p1)]) (E0x34) dX5_ring_34 (by decide) cm_X0_ringBell lk_X5_102 im_X0_ringBell rfl sel_X0_ringBell (hq1.T 0 (by decide)) rfl rfl (Nat.le_of_ble_eq_true rfl) rfl kk) ?_
  refine r_go (fun kk => e_goto 41 dX5_ring_37 (by decide) kk) ?_
  exact r_ret ⟨by rw [hk1], by rw [← hk1]; exact PM.mk hS hH hk1 hC1 hR1 hs1 hq2 rfl (rg_low (by omega) _) ((sn_ring hS1 (nI p1)).up (by omega)) (Or.inr (Or.inr (Or.inr (Or.inr (Or.inr (Or.inr (Or.inl ⟨nI p1, nI_l (by omega), (nI_l (by omega)).symm, rfl, rfl, rfl⟩)))))))⟩ (e_retI dX5_ring_41 rfl rfl rfl)

theorem k5_ring (hC : CW m o F YL AN kf vf n s nf) (hS : SN kf vf n s) (hH : HI nf s kf vf n) (x : Int32) : EvC G 4 uX5_ring [.ref F, .int x] m (fun r mm => r = some (.int (ringR kf x)) ∧ PM m o F YL AN mm (ringK kf x) vf (rfs kf (whyRing x))) := by
  have hq := hC.2.2.2.1.q
  have hn2 := hq.n2
  have h6 := hC.2.2.2.2.2
  have hs := hC.2.2.2.2.1.2.2.2.2.1
  by_cases hx : inI x (nI 0) (nI 15) = true
  · have hw : whyRing x = nI 0 := by unfold whyRing; rw [if_pos hx]
    obtain ⟨p1, -, hp, rfl⟩ := inI_n (by decide) (by decide) hx
    by_cases h9 : s = 1000
    · skip
      obtain ⟨e1, e2, e3⟩ := rf_full (kf := kf) (by rw [h6, h9])
      unfold ringR ringK
      rw [hw, e1, e2, e3]
      exact EvC.ex (t5_ring3 hC hp h9) ⟨rfl, PM.ref hC hS hH _⟩
    · skip
      obtain ⟨e1, e2, e3⟩ := rf_ok h6 (by omega)
      unfold ringR ringK
      rw [hw, e1, e2, e3]
      refine (t5_ring4 hC hS hH (by omega) hp).mono (fun r m' h => ?_)
      rw [if_neg (by decide), if_neg (by decide)]
      exact h
  · rw [Bool.not_eq_true] at hx
    have hw : whyRing x = nI 1 := by unfold whyRing; rw [if_neg (by rw [hx]; decide)]
    obtain ⟨e1, e2, e3⟩ := rf_no (kf := kf) (w := nI 1) (by decide)
    unfold ringR ringK
    rw [hw, e1, e2, e3]
    exact EvC.ex (t5_ring1 hC hx) ⟨rfl, PM.ref hC hS hH _⟩

set_option maxRecDepth 100000 in
set_option maxHeartbeats 4000000 in
theorem t5_run1 (hC : CW m o F YL AN kf vf n s nf) {x : Int32} (hx : inI x (nI 0) (nI 1000) = false) : Ev G 6 uX5_run [.ref F, .int x] m (some (.int (-1))) (sI m 105 F (nI 1)) := by
  refine Ev.of (by decide +kernel) (Nat.le_of_ble_eq_true rfl) ?_
  refine e_lvs (lv' := [(0, .ref F), (1, .int x)]) rfl ?_
  refine e_iload_n 1 dX5_run_0 rfl ?_
  refine e_if_lt 11 dX5_run_1 (by decide) (fun h1 => ?_) (fun h1 => ?_)
  · skip
    have h1' := Int32.not_le.mpr h1
    refine e_aload_n 0 dX5_run_11 rfl ?_
    refine e_ic (nI 1) dX5_run_12 (by decide) ?_
    refine e_callV (ci := 5) (st := []) (st1 := [.int (-1)]) (As := [.int (nI 1)]) (k_refused (G := G) hC.1.1 (nI 1)) dX5_run_13 (by decide) cm_X5_refused lk_X5_43 im_X5_refused rfl sel_X5_refused hC.1.1 rfl rfl (Nat.le_of_ble_eq_true rfl) rfl ?_
    exact e_retI dX5_run_16 rfl rfl rfl
  · skip
    have h1' := Int32.not_lt.mp h1
    obtain ⟨j1, hj1, rfl⟩ := nI_of h1
    refine e_iload_n 1 dX5_run_4 rfl ?_
    refine e_sipush (v := nI 1000) dX5_run_5 (by decide) ?_
    refine e_icmp_leN 17 dX5_run_8 (by decide) (by omega) (by omega) (fun q8 => ?_) (fun q8 => ?_)
    · skip
      have q8' := Nat.not_lt.mpr q8
      exact absurd (inI_of (j := j1) (a := 0) (b := 1000) (by omega) (by omega) (by decide)) (by rw [hx]; decide)
    · skip
      have q8' := Nat.not_le.mpr q8
      refine e_aload_n 0 dX5_run_11 rfl ?_
      refine e_ic (nI 1) dX5_run_12 (by decide) ?_
      refine e_callV (ci := 5) (st := []) (st1 := [.int (-1)]) (As := [.int (nI 1)]) (k_refused (G := G) hC.1.1 (nI 1)) dX5_run_13 (by decide) cm_X5_refused lk_X5_43 im_X5_refused rfl sel_X5_refused hC.1.1 rfl rfl (Nat.le_of_ble_eq_true rfl) rfl ?_
      exact e_retI dX5_run_16 rfl rfl rfl

set_option maxRecDepth 100000 in
set_option maxHeartbeats 4000000 in
theorem t5_run3 (hC : CW m o F YL AN kf vf n s nf) {p1 : Nat} (hp : p1 ≤ 1000) (hs9 : s = 1000) : Ev G 6 uX5_run [.ref F, .int (nI p1)] m (some (.int (-1))) (sI m 105 F (nI 5)) := by
  refine Ev.of (by decide +kernel) (Nat.le_of_ble_eq_true rfl) ?_
  refine e_lvs (lv' := [(0, .ref F), (1, .int (nI p1))]) rfl ?_
  refine e_iload_n 1 dX5_run_0 rfl ?_
  refine e_if_lt 11 dX5_run_1 (by decide) (fun h => absurd h (nI_pos (by omega))) (fun _ => ?_)
  refine e_iload_n 1 dX5_run_4 rfl ?_
  refine e_sipush (v := nI 1000) dX5_run_5 (by decide) ?_
  refine e_icmp_leN 17 dX5_run_8 (by decide) (by omega) (by omega) (fun _ => ?_) (fun h => absurd h (by omega))
  refine e_aload_n 0 dX5_run_17 rfl ?_
  refine e_bipush (v := nI 7) dX5_run_18 (by decide) ?_
  refine e_iload_n 1 dX5_run_20 rfl ?_
  refine e_i2lN dX5_run_21 (by omega) ?_
  refine e_lconst (v := lN 0) dX5_run_22 (by decide) ?_
  refine e_lconst (v := lN 0) dX5_run_23 (by decide) ?_
  refine e_callV (ci := 5) (st := []) (st1 := [.int (nI 0)]) (As := [.int (nI 7), .long (lN p1), .long (lN 0), .long (lN 0)]) (k_noted0 (G := G) hC hs9 (nI 7) (lN p1) (lN 0) (lN 0)) dX5_run_24 (by decide) cm_X5_noted lk_X5_53 im_X5_noted rfl sel_X5_noted hC.1.1 rfl rfl (Nat.le_of_ble_eq_true rfl) rfl ?_
  refine e_if_eq 41 dX5_run_27 (by decide) (fun _ => ?_) (fun h => absurd h (by decide))
  refine e_ic ((-1)) dX5_run_41 (by decide) ?_
  exact e_retI dX5_run_42 rfl rfl rfl

set_option maxRecDepth 100000 in
set_option maxHeartbeats 4000000 in
theorem t5_run4 (hC : CW m o F YL AN kf vf n s nf) (hS : SN kf vf n s) (hH : HI nf s kf vf n) (hs9 : s < 1000) {p1 : Nat} (hp : p1 ≤ 1000) (lf : Nat → Int32) : EvC G 6 uX5_run [.ref F, .int (nI p1)] m (fun r mm => r = some (.int (nI (rnL p1 ((upd kf 6 (nI (s + 1))), vf, lf) 0).2)) ∧ PM m o F YL AN mm ((rnL p1 ((upd kf 6 (nI (s + 1))), vf, lf) 0).1.1) ((rnL p1 ((upd kf 6 (nI (s + 1))), vf, lf) 0).1.2.1) (nI 0)) := by
  refine EvC.of (by decide +kernel) (Nat.le_of_ble_eq_true rfl) ?_
  have hq := hC.2.2.2.1.q
  obtain ⟨k1, hk1⟩ : ∃ k1, k1 = upd kf 6 (nI (s + 1)) := ⟨_, rfl⟩
  have hS1 : SN k1 vf n s := by rw [hk1]; exact hS.six _
  have hn2 := hq.n2
  obtain ⟨hW, z, h0, hz, hG⟩ := id hS1
  refine r_go (fun kk => e_lvs (lv' := [(0, .ref F), (1, .int (nI p1))]) rfl kk) ?_
  refine r_go (fun kk => e_iload_n 1 dX5_run_0 rfl kk) ?_
  refine r_go (fun kk => e_if_lt 11 dX5_run_1 (by decide) (fun h => absurd h (nI_pos (by omega))) (fun _ => kk)) ?_
  refine r_go (fun kk => e_iload_n 1 dX5_run_4 rfl kk) ?_
  refine r_go (fun kk => e_sipush (v := nI 1000) dX5_run_5 (by decide) kk) ?_
  refine r_go (fun kk => e_icmp_leN 17 dX5_run_8 (by decide) (by omega) (by omega) (fun _ => kk) (fun h => absurd h (by omega))) ?_
  refine r_go (fun kk => e_aload_n 0 dX5_run_17 rfl kk) ?_
  refine r_go (fun kk => e_bipush (v := nI 7) dX5_run_18 (by decide) kk) ?_
  refine r_go (fun kk => e_iload_n 1 dX5_run_20 rfl kk) ?_
  refine r_go (fun kk => e_i2lN dX5_run_21 (by omega) kk) ?_
  refine r_go (fun kk => e_lconst (v := lN 0) dX5_run_22 (by decide) kk) ?_
  refine r_go (fun kk => e_lconst (v := lN 0) dX5_run_23 (by decide) kk) ?_
  obtain ⟨_, m1, ⟨rfl, o1, A1, hC1, hR1, hs1⟩, E0x24⟩ := k_noted1 (G := G) hC hs9 (nI 7) (lN p1) (lN 0) (lN 0)
  refine r_go (fun kk => e_callV (ci := 5) (st := []) (st1 := [.int (nI 1)]) (As := [.int (nI 7), .long (lN p1), .long (lN 0), .long (lN 0)]) (E0x24) dX5_run_24 (by decide) cm_X5_noted lk_X5_53 im_X5_noted rfl sel_X5_noted hC.1.1 rfl rfl (Nat.le_of_ble_eq_true rfl) rfl kk) ?_
  rw [← hk1] at hC1
  have hq1 := hC1.2.2.2.1.q
  refine r_go (fun kk => e_if_eq 41 dX5_run_27 (by decide) (fun h => absurd h (by decide)) (fun _ => kk)) ?_
  refine r_go (fun kk => e_aload_n 0 dX5_run_30 rfl kk) ?_
  refine r_go (fun kk => e_getP (some (YL.1 0)) dX5_run_31 fl_X5_12 rfl hC1.1.1 hC1.2.1.1 kk) ?_
  refine r_go (fun kk => e_iload_n 1 dX5_run_34 rfl kk) ?_
  obtain ⟨_, m2, ⟨rfl, Y2, n2, hn3, hSm, hq2⟩, E0x35⟩ := k_goOn (G := G) hq1 (by omega) (Or.inl rfl) hW hp (by omega) hG h0 lf
  refine r_go (fun kk => e_callV (ci := 0) (st := []) (st1 := [.int (nI ((rnL p1 (k1, vf, lf) 0).2))]) (As := [.int (nI p1)]) (E0x35) dX5_run_35 (by decide) cm_X0_goOn lk_X5_105 im_X0_goOn rfl sel_X0_goOn (hq1.T 0 (by decide)) rfl rfl (Nat.le_of_ble_eq_true rfl) rfl kk) ?_
  refine r_go (fun kk => e_goto 42 dX5_run_38 (by decide) kk) ?_
  obtain ⟨a6, n3, sn3⟩ := sn_run hS1 (by omega) hp lf
  have en : n3 = n2 := (nI_eq (by have := sn3.1.1.2; omega) (by have := hq2.n2; omega)).mp (sn3.1.1.1.symm.trans hq2.n1)
  have sn2 := sn3
  rw [en] at sn2
  exact r_ret ⟨by rw [hk1], by rw [← hk1]; exact PM.mk hS hH hk1 hC1 hR1 hs1 hq2 (hSm 0 (by omega)) (a6) (sn2) (Or.inr (Or.inr (Or.inr (Or.inr (Or.inr (Or.inr (Or.inr ⟨p1, lf, hp, nI_l (by omega), rfl, rfl, rfl, hq2.n1, hq2.n2⟩)))))))⟩ (e_retI dX5_run_42 rfl rfl rfl)

theorem k5_run (hC : CW m o F YL AN kf vf n s nf) (hS : SN kf vf n s) (hH : HI nf s kf vf n) (lf : Nat → Int32) (x : Int32) : EvC G 6 uX5_run [.ref F, .int x] m (fun r mm => r = some (.int (runR kf vf lf x)) ∧ PM m o F YL AN mm (runS kf vf lf x).1 (runS kf vf lf x).2.1 (rfs kf (whyRun x))) := by
  have hq := hC.2.2.2.1.q
  have hn2 := hq.n2
  have h6 := hC.2.2.2.2.2
  have hs := hC.2.2.2.2.1.2.2.2.2.1
  by_cases hx : inI x (nI 0) (nI 1000) = true
  · have hw : whyRun x = nI 0 := by unfold whyRun; rw [if_pos hx]
    obtain ⟨p1, -, hp, rfl⟩ := inI_n (by decide) (by decide) hx
    by_cases h9 : s = 1000
    · skip
      obtain ⟨e1, e2, e3⟩ := rf_full (kf := kf) (by rw [h6, h9])
      unfold runR runS
      rw [hw, e1, e2, e3]
      exact EvC.ex (t5_run3 hC hp h9) ⟨rfl, PM.ref hC hS hH _⟩
    · skip
      obtain ⟨e1, e2, e3⟩ := rf_ok h6 (by omega)
      unfold runR runS runF
      rw [hw, e1, e3]
      refine (t5_run4 hC hS hH (by omega) hp lf).mono (fun r m' h => ?_)
      rw [if_neg (by decide), if_neg (by decide), e2, nI_clamp (by omega)]
      exact h
  · rw [Bool.not_eq_true] at hx
    have hw : whyRun x = nI 1 := by unfold whyRun; rw [if_neg (by rw [hx]; decide)]
    obtain ⟨e1, e2, e3⟩ := rf_no (kf := kf) (w := nI 1) (by decide)
    unfold runR runS
    rw [hw, e1, e2, e3]
    exact EvC.ex (t5_run1 hC hx) ⟨rfl, PM.ref hC hS hH _⟩

set_option maxRecDepth 100000 in
set_option maxHeartbeats 4000000 in
theorem t5_lock1 (hC : CW m o F YL AN kf vf n s nf) {x : Int32} (hx : inI x (nI 0) (nI 99) = false) : Ev G 4 uX5_lock [.ref F, .int x] m (some (.int (nI 0))) (sI m 105 F (nI 1)) := by
  refine Ev.of (by decide +kernel) (Nat.le_of_ble_eq_true rfl) ?_
  refine e_lvs (lv' := [(0, .ref F), (1, .int x)]) rfl ?_
  refine e_iload_n 1 dX5_lock_0 rfl ?_
  refine e_if_lt 10 dX5_lock_1 (by decide) (fun h1 => ?_) (fun h1 => ?_)
  · skip
    have h1' := Int32.not_le.mpr h1
    refine e_aload_n 0 dX5_lock_10 rfl ?_
    refine e_ic (nI 1) dX5_lock_11 (by decide) ?_
    refine e_callV (ci := 5) (st := []) (st1 := [.int (-1)]) (As := [.int (nI 1)]) (k_refused (G := G) hC.1.1 (nI 1)) dX5_lock_12 (by decide) cm_X5_refused lk_X5_43 im_X5_refused rfl sel_X5_refused hC.1.1 rfl rfl (Nat.le_of_ble_eq_true rfl) rfl ?_
    refine e_pop dX5_lock_15 rfl ?_
    refine e_ic (nI 0) dX5_lock_16 (by decide) ?_
    exact e_retI dX5_lock_17 rfl rfl rfl
  · skip
    have h1' := Int32.not_lt.mp h1
    obtain ⟨j1, hj1, rfl⟩ := nI_of h1
    refine e_iload_n 1 dX5_lock_4 rfl ?_
    refine e_bipush (v := nI 100) dX5_lock_5 (by decide) ?_
    refine e_icmp_ltN 18 dX5_lock_7 (by decide) (by omega) (by omega) (fun q7 => ?_) (fun q7 => ?_)
    · skip
      have q7' := Nat.not_le.mpr q7
      exact absurd (inI_of (j := j1) (a := 0) (b := 99) (by omega) (by omega) (by decide)) (by rw [hx]; decide)
    · skip
      have q7' := Nat.not_lt.mpr q7
      refine e_aload_n 0 dX5_lock_10 rfl ?_
      refine e_ic (nI 1) dX5_lock_11 (by decide) ?_
      refine e_callV (ci := 5) (st := []) (st1 := [.int (-1)]) (As := [.int (nI 1)]) (k_refused (G := G) hC.1.1 (nI 1)) dX5_lock_12 (by decide) cm_X5_refused lk_X5_43 im_X5_refused rfl sel_X5_refused hC.1.1 rfl rfl (Nat.le_of_ble_eq_true rfl) rfl ?_
      refine e_pop dX5_lock_15 rfl ?_
      refine e_ic (nI 0) dX5_lock_16 (by decide) ?_
      exact e_retI dX5_lock_17 rfl rfl rfl

set_option maxRecDepth 100000 in
set_option maxHeartbeats 4000000 in
theorem t5_lock2 (hC : CW m o F YL AN kf vf n s nf) {p1 : Nat} (hp : p1 ≤ 99) (hh : ¬ kf (240 + p1) = -2) : Ev G 4 uX5_lock [.ref F, .int (nI p1)] m (some (.int (nI 0))) (sI m 105 F (nI 2)) := by
  refine Ev.of (by decide +kernel) (Nat.le_of_ble_eq_true rfl) ?_
  have hq := hC.2.2.2.1.q
  refine e_lvs (lv' := [(0, .ref F), (1, .int (nI p1))]) rfl ?_
  refine e_iload_n 1 dX5_lock_0 rfl ?_
  refine e_if_lt 10 dX5_lock_1 (by decide) (fun h => absurd h (nI_pos (by omega))) (fun _ => ?_)
  refine e_iload_n 1 dX5_lock_4 rfl ?_
  refine e_bipush (v := nI 100) dX5_lock_5 (by decide) ?_
  refine e_icmp_ltN 18 dX5_lock_7 (by decide) (by omega) (by omega) (fun _ => ?_) (fun h => absurd h (by omega))
  refine e_aload_n 0 dX5_lock_18 rfl ?_
  refine e_getP (some (YL.1 0)) dX5_lock_19 fl_X5_12 rfl hC.1.1 hC.2.1.1 ?_
  refine e_iload_n 1 dX5_lock_22 rfl ?_
  refine e_callV (ci := 0) (st := []) (st1 := [.int (kf (240 + p1))]) (As := [.int (nI p1)]) (k_holderOf (G := G) hq (j := p1) (by omega)) dX5_lock_23 (by decide) cm_X0_holderOf lk_X5_95 im_X0_holderOf rfl sel_X0_holderOf (hq.T 0 (by decide)) rfl rfl (Nat.le_of_ble_eq_true rfl) rfl ?_
  refine e_bipush (v := (-2)) dX5_lock_26 (by decide) ?_
  refine e_icmp_eq 39 dX5_lock_28 (by decide) (fun h => absurd h (hh)) (fun _ => ?_)
  refine e_aload_n 0 dX5_lock_31 rfl ?_
  refine e_ic (nI 2) dX5_lock_32 (by decide) ?_
  refine e_callV (ci := 5) (st := []) (st1 := [.int (-1)]) (As := [.int (nI 2)]) (k_refused (G := G) hC.1.1 (nI 2)) dX5_lock_33 (by decide) cm_X5_refused lk_X5_43 im_X5_refused rfl sel_X5_refused hC.1.1 rfl rfl (Nat.le_of_ble_eq_true rfl) rfl ?_
  refine e_pop dX5_lock_36 rfl ?_
  refine e_ic (nI 0) dX5_lock_37 (by decide) ?_
  exact e_retI dX5_lock_38 rfl rfl rfl

set_option maxRecDepth 100000 in
set_option maxHeartbeats 4000000 in
theorem t5_lock3 (hC : CW m o F YL AN kf vf n s nf) {p1 : Nat} (hp : p1 ≤ 99) (hh : kf (240 + p1) = -2) (hs9 : s = 1000) : Ev G 4 uX5_lock [.ref F, .int (nI p1)] m (some (.int (nI 0))) (sI m 105 F (nI 5)) := by
  refine Ev.of (by decide +kernel) (Nat.le_of_ble_eq_true rfl) ?_
  have hq := hC.2.2.2.1.q
  refine e_lvs (lv' := [(0, .ref F), (1, .int (nI p1))]) rfl ?_
  refine e_iload_n 1 dX5_lock_0 rfl ?_
  refine e_if_lt 10 dX5_lock_1 (by decide) (fun h => absurd h (nI_pos (by omega))) (fun _ => ?_)
  refine e_iload_n 1 dX5_lock_4 rfl ?_
  refine e_bipush (v := nI 100) dX5_lock_5 (by decide) ?_
  refine e_icmp_ltN 18 dX5_lock_7 (by decide) (by omega) (by omega) (fun _ => ?_) (fun h => absurd h (by omega))
  refine e_aload_n 0 dX5_lock_18 rfl ?_
  refine e_getP (some (YL.1 0)) dX5_lock_19 fl_X5_12 rfl hC.1.1 hC.2.1.1 ?_
  refine e_iload_n 1 dX5_lock_22 rfl ?_
  refine e_callV (ci := 0) (st := []) (st1 := [.int (kf (240 + p1))]) (As := [.int (nI p1)]) (k_holderOf (G := G) hq (j := p1) (by omega)) dX5_lock_23 (by decide) cm_X0_holderOf lk_X5_95 im_X0_holderOf rfl sel_X0_holderOf (hq.T 0 (by decide)) rfl rfl (Nat.le_of_ble_eq_true rfl) rfl ?_
  refine e_bipush (v := (-2)) dX5_lock_26 (by decide) ?_
  refine e_icmp_eq 39 dX5_lock_28 (by decide) (fun _ => ?_) (fun h => absurd h (not_not_intro hh))
  refine e_aload_n 0 dX5_lock_39 rfl ?_
  refine e_ic (nI 5) dX5_lock_40 (by decide) ?_
  refine e_iload_n 1 dX5_lock_41 rfl ?_
  refine e_i2lN dX5_lock_42 (by omega) ?_
  refine e_lconst (v := lN 0) dX5_lock_43 (by decide) ?_
  refine e_lconst (v := lN 0) dX5_lock_44 (by decide) ?_
  refine e_callV (ci := 5) (st := []) (st1 := [.int (nI 0)]) (As := [.int (nI 5), .long (lN p1), .long (lN 0), .long (lN 0)]) (k_noted0 (G := G) hC hs9 (nI 5) (lN p1) (lN 0) (lN 0)) dX5_lock_45 (by decide) cm_X5_noted lk_X5_53 im_X5_noted rfl sel_X5_noted hC.1.1 rfl rfl (Nat.le_of_ble_eq_true rfl) rfl ?_
  refine e_if_ne 53 dX5_lock_48 (by decide) (fun h => absurd h (not_not_intro rfl)) (fun _ => ?_)
  refine e_ic (nI 0) dX5_lock_51 (by decide) ?_
  exact e_retI dX5_lock_52 rfl rfl rfl

set_option maxRecDepth 100000 in
set_option maxHeartbeats 4000000 in
theorem t5_lock4 (hC : CW m o F YL AN kf vf n s nf) (hS : SN kf vf n s) (hH : HI nf s kf vf n) (hs9 : s < 1000) {p1 : Nat} (hp : p1 ≤ 99) (hh : kf (240 + p1) = -2) : EvC G 4 uX5_lock [.ref F, .int (nI p1)] m (fun r mm => r = some (.int (nI 1)) ∧ PM m o F YL AN mm (upd (upd kf 6 (nI (s + 1))) (240 + p1) (-1)) vf (nI 0)) := by
  refine EvC.of (by decide +kernel) (Nat.le_of_ble_eq_true rfl) ?_
  have hq := hC.2.2.2.1.q
  obtain ⟨k1, hk1⟩ : ∃ k1, k1 = upd kf 6 (nI (s + 1)) := ⟨_, rfl⟩
  have hS1 : SN k1 vf n s := by rw [hk1]; exact hS.six _
  have hn2 := hq.n2
  refine r_go (fun kk => e_lvs (lv' := [(0, .ref F), (1, .int (nI p1))]) rfl kk) ?_
  refine r_go (fun kk => e_iload_n 1 dX5_lock_0 rfl kk) ?_
  refine r_go (fun kk => e_if_lt 10 dX5_lock_1 (by decide) (fun h => absurd h (nI_pos (by omega))) (fun _ => kk)) ?_
  refine r_go (fun kk => e_iload_n 1 dX5_lock_4 rfl kk) ?_
  refine r_go (fun kk => e_bipush (v := nI 100) dX5_lock_5 (by decide) kk) ?_
  refine r_go (fun kk => e_icmp_ltN 18 dX5_lock_7 (by decide) (by omega) (by omega) (fun _ => kk) (fun h => absurd h (by omega))) ?_
  refine r_go (fun kk => e_aload_n 0 dX5_lock_18 rfl kk) ?_
  refine r_go (fun kk => e_getP (some (YL.1 0)) dX5_lock_19 fl_X5_12 rfl hC.1.1 hC.2.1.1 kk) ?_
  refine r_go (fun kk => e_iload_n 1 dX5_lock_22 rfl kk) ?_
  refine r_go (fun kk => e_callV (ci := 0) (st := []) (st1 := [.int (kf (240 + p1))]) (As := [.int (nI p1)]) (k_holderOf (G := G) hq (j := p1) (by omega)) dX5_lock_23 (by decide) cm_X0_holderOf lk_X5_95 im_X0_holderOf rfl sel_X0_holderOf (hq.T 0 (by decide)) rfl rfl (Nat.le_of_ble_eq_true rfl) rfl kk) ?_
  refine r_go (fun kk => e_bipush (v := (-2)) dX5_lock_26 (by decide) kk) ?_
  refine r_go (fun kk => e_icmp_eq 39 dX5_lock_28 (by decide) (fun _ => kk) (fun h => absurd h (not_not_intro hh))) ?_
  refine r_go (fun kk => e_aload_n 0 dX5_lock_39 rfl kk) ?_
  refine r_go (fun kk => e_ic (nI 5) dX5_lock_40 (by decide) kk) ?_
  refine r_go (fun kk => e_iload_n 1 dX5_lock_41 rfl kk) ?_
  refine r_go (fun kk => e_i2lN dX5_lock_42 (by omega) kk) ?_
  refine r_go (fun kk => e_lconst (v := lN 0) dX5_lock_43 (by decide) kk) ?_
  refine r_go (fun kk => e_lconst (v := lN 0) dX5_lock_44 (by decide) kk) ?_
  obtain ⟨_, m1, ⟨rfl, o1, A1, hC1, hR1, hs1⟩, E0x45⟩ := k_noted1 (G := G) hC hs9 (nI 5) (lN p1) (lN 0) (lN 0)
  refine r_go (fun kk => e_callV (ci := 5) (st := []) (st1 := [.int (nI 1)]) (As := [.int (nI 5), .long (lN p1), .long (lN 0), .long (lN 0)]) (E0x45) dX5_lock_45 (by decide) cm_X5_noted lk_X5_53 im_X5_noted rfl sel_X5_noted hC.1.1 rfl rfl (Nat.le_of_ble_eq_true rfl) rfl kk) ?_
  rw [← hk1] at hC1
  have hq1 := hC1.2.2.2.1.q
  refine r_go (fun kk => e_if_ne 53 dX5_lock_48 (by decide) (fun _ => kk) (fun h => absurd h (by decide))) ?_
  refine r_go (fun kk => e_aload_n 0 dX5_lock_53 rfl kk) ?_
  refine r_go (fun kk => e_getP (some (YL.1 0)) dX5_lock_54 fl_X5_12 rfl hC1.1.1 hC1.2.1.1 kk) ?_
  refine r_go (fun kk => e_iload_n 1 dX5_lock_57 rfl kk) ?_
  obtain ⟨_, m2, ⟨rfl, hq2⟩, E0x58⟩ := k_addLock (G := G) hq1 (by omega) (l := p1) (by omega)
  refine r_go (fun kk => e_callV (ci := 0) (st := []) (st1 := []) (As := [.int (nI p1)]) (E0x58) dX5_lock_58 (by decide) cm_X0_addLock lk_X5_98 im_X0_addLock rfl sel_X0_addLock (hq1.T 0 (by decide)) rfl rfl (Nat.le_of_ble_eq_true rfl) rfl kk) ?_
  refine r_go (fun kk => e_ic (nI 1) dX5_lock_61 (by decide) kk) ?_
  exact r_ret ⟨rfl, by rw [← hk1]; exact PM.mk hS hH hk1 hC1 hR1 hs1 hq2 rfl (upd_ne _ _ (by omega)) ((sn_lock hS1 (l := p1) (by omega) (by rw [hk1, upd_ne _ _ (by omega)]; exact hh)).up (by omega)) (Or.inr (Or.inr (Or.inr (Or.inr (Or.inr (Or.inl ⟨p1, by omega, nI_l (by omega), rfl, rfl, rfl, rfl⟩))))))⟩ (e_retI dX5_lock_62 rfl rfl rfl)

theorem k5_lock (hC : CW m o F YL AN kf vf n s nf) (hS : SN kf vf n s) (hH : HI nf s kf vf n) (x : Int32) : EvC G 4 uX5_lock [.ref F, .int x] m (fun r mm => r = some (.int (bI (!rfB kf (whyLock kf x)))) ∧ PM m o F YL AN mm (lockK kf x) vf (rfs kf (whyLock kf x))) := by
  have hq := hC.2.2.2.1.q
  have hn2 := hq.n2
  have h6 := hC.2.2.2.2.2
  have hs := hC.2.2.2.2.1.2.2.2.2.1
  by_cases hx : inI x (nI 0) (nI 99) = true
  · obtain ⟨p1, -, hp, rfl⟩ := inI_n (by decide) (by decide) hx
    by_cases hh : kf (240 + p1) = -2
    · have hw : whyLock kf (nI p1) = nI 0 := by unfold whyLock; rw [if_pos hx, nI_clamp (by omega), if_pos hh]
      by_cases h9 : s = 1000
      · skip
        obtain ⟨e1, e2, e3⟩ := rf_full (kf := kf) (by rw [h6, h9])
        unfold lockK
        rw [hw, e1, e2, e3]
        exact EvC.ex (t5_lock3 hC hp hh h9) ⟨rfl, PM.ref hC hS hH _⟩
      · skip
        obtain ⟨e1, e2, e3⟩ := rf_ok h6 (by omega)
        unfold lockK
        rw [hw, e1, e2, e3]
        refine (t5_lock4 hC hS hH (by omega) hp hh).mono (fun r m' h => ?_)
        rw [if_neg (by decide), nI_clamp (by omega)]
        exact h
    · have hw : whyLock kf (nI p1) = nI 2 := by unfold whyLock; rw [if_pos hx, nI_clamp (by omega), if_neg hh]
      obtain ⟨e1, e2, e3⟩ := rf_no (kf := kf) (w := nI 2) (by decide)
      unfold lockK
      rw [hw, e1, e2, e3]
      exact EvC.ex (t5_lock2 hC hp hh) ⟨rfl, PM.ref hC hS hH _⟩
  · rw [Bool.not_eq_true] at hx
    have hw : whyLock kf x = nI 1 := by unfold whyLock; rw [if_neg (by rw [hx]; decide)]
    obtain ⟨e1, e2, e3⟩ := rf_no (kf := kf) (w := nI 1) (by decide)
    unfold lockK
    rw [hw, e1, e2, e3]
    exact EvC.ex (t5_lock1 hC hx) ⟨rfl, PM.ref hC hS hH _⟩

end Class30
