/-! the class: standing, bound, forge -/
theorem PM.op {m m2 : Mem} {o : Nat → Nat} {F : Nat} {YL Y2 : YY} {AN : Nat × Nat × Nat} {kf k2 : KF} {vf v2 : VF} {n s : Nat} {nf : Nat → Int64} (hC : CW m o F YL AN kf vf n s nf) (hS : SN k2 v2 n s) (hH : HI nf s k2 v2 n) (hq : KQ (m, YL) m2 Y2 62000 k2 v2 n) (he : Y2.1 0 = YL.1 0) (h6 : k2 6 = kf 6) : PM m o F YL AN m2 k2 v2 (gI m 105 F) := by
  obtain ⟨c1, c2, c3⟩ := hC.op hq he h6
  exact ⟨_, Y2, AN, n, s, nf, c1, hS, hH, c2, c3⟩
theorem PM.f {m m2 : Mem} {o : Nat → Nat} {F : Nat} {YL : YY} {AN : Nat × Nat × Nat} {kf : KF} {vf : VF} {x y : Int32} (h : PM m o F YL AN m2 kf vf x) : PM m o F YL AN (sI m2 105 F y) kf vf y := by
  obtain ⟨o', YL', AN', n', s', nf', h1, h2, h3, h4, h5⟩ := h
  obtain ⟨b1, b2⟩ := h1.f 105 y
  exact ⟨o', YL', AN', n', s', nf', b1, h2, h3, h4.tr ⟨b2.up (fun c hc => Or.inl hc), fun _ => rfl, gI_nf (by omega), rfl, Nat.le_refl _⟩, u2_eq (gI m2) 105 F y⟩
section Class33
variable {G : GG} {m : Mem} {o : Nat → Nat} {F : Nat} {YL : YY} {AN : Nat × Nat × Nat} {kf : KF} {vf : VF} {n s : Nat} {nf : Nat → Int64}

set_option maxRecDepth 100000 in
set_option maxHeartbeats 4000000 in
theorem t5_stand0 (hC : CW m o F YL AN kf vf n s nf) {t : Int32} (w : Int32) (hx : tIn kf t = false) : Ev G 2 uX5_standing [.ref F, .int t, .int w] m (some (.long (-1))) m := by
  refine Ev.of (by decide +kernel) (Nat.le_of_ble_eq_true rfl) ?_
  have hq := hC.2.2.2.1.q
  refine e_lvs (lv' := [(0, .ref F), (1, .int t), (2, .int w)]) rfl ?_
  refine e_aload_n 0 dX5_standing_0 rfl ?_
  refine e_getP (some (YL.1 0)) dX5_standing_1 fl_X5_12 rfl hC.1.1 hC.2.1.1 ?_
  refine e_iload_n 1 dX5_standing_4 rfl ?_
  refine e_callV (ci := 0) (st := []) (st1 := [.null]) (As := [.int t]) (k_unendedN (G := G) hq hx) dX5_standing_5 (by decide) cm_X0_unendedTask lk_X5_72 im_X0_unendedTask rfl sel_X0_unendedTask (hq.T 0 (by decide)) rfl rfl (Nat.le_of_ble_eq_true rfl) rfl ?_
  refine e_astore_nN (lv' := [(3, .null), (0, .ref F), (1, .int t), (2, .int w)]) dX5_standing_8 (by decide) rfl ?_
  refine e_aload_nN 0 dX5_standing_9 rfl ?_
  refine e_ifnonnullN dX5_standing_10 ?_
  refine e_ldc2 dX5_standing_13 cs_X5_118 ?_
  exact e_retL dX5_standing_16 rfl rfl

set_option maxRecDepth 100000 in
set_option maxHeartbeats 4000000 in
theorem t5_stand0e (hC : CW m o F YL AN kf vf n s nf) {j : Nat} (hj : j < n) (w : Int32) (hx : kg kf j 6 = 4) : Ev G 2 uX5_standing [.ref F, .int (nI j), .int w] m (some (.long (-1))) m := by
  refine Ev.of (by decide +kernel) (Nat.le_of_ble_eq_true rfl) ?_
  have hq := hC.2.2.2.1.q
  refine e_lvs (lv' := [(0, .ref F), (1, .int (nI j)), (2, .int w)]) rfl ?_
  refine e_aload_n 0 dX5_standing_0 rfl ?_
  refine e_getP (some (YL.1 0)) dX5_standing_1 fl_X5_12 rfl hC.1.1 hC.2.1.1 ?_
  refine e_iload_n 1 dX5_standing_4 rfl ?_
  refine e_callV (ci := 0) (st := []) (st1 := [.null]) (As := [.int (nI j)]) (k_unendedE (G := G) hq hj hx) dX5_standing_5 (by decide) cm_X0_unendedTask lk_X5_72 im_X0_unendedTask rfl sel_X0_unendedTask (hq.T 0 (by decide)) rfl rfl (Nat.le_of_ble_eq_true rfl) rfl ?_
  refine e_astore_nN (lv' := [(3, .null), (0, .ref F), (1, .int (nI j)), (2, .int w)]) dX5_standing_8 (by decide) rfl ?_
  refine e_aload_nN 0 dX5_standing_9 rfl ?_
  refine e_ifnonnullN dX5_standing_10 ?_
  refine e_ldc2 dX5_standing_13 cs_X5_118 ?_
  exact e_retL dX5_standing_16 rfl rfl

set_option maxRecDepth 100000 in
set_option maxHeartbeats 4000000 in
theorem t5_stand1 (hC : CW m o F YL AN kf vf n s nf) (hS : SN kf vf n s) (hH : HI nf s kf vf n) {j : Nat} (hj : j < n) (h4 : ¬ kg kf j 6 = 4) (w : Int32) : EvC G 2 uX5_standing [.ref F, .int (nI j), .int w] m (fun r mm => r = some (.long (stR kf vf (nI j) w)) ∧ PM m o F YL AN mm kf vf (gI m 105 F)) := by
  refine EvC.of (by decide +kernel) (Nat.le_of_ble_eq_true rfl) ?_
  have hq := hC.2.2.2.1.q
  have hn2 := hq.n2
  obtain ⟨hW, z, h0, hz, hG⟩ := id hS
  have hs := hC.2.2.2.2.1.2.2.2.2.1
  have hR := hG.rh hW (by omega) (by omega)
  have hx : tIn kf (nI j) = true := tIn_of hq.n1 hn2 hj
  have ej : (nI j).toNatClampNeg = j := nI_clamp (by omega)
  have hv : lvg kf (nI j) = true := by unfold lvg; rw [ej, hx, decide_eq_true h4]; rfl
  have hst := (stnd_min hW hR hj).1
  have s0 : stR kf vf (nI j) (nI 0) = (cls kf (stnd kf vf j)).toInt64 := by unfold stR; rw [hv, ej]; rfl
  have s1 : stR kf vf (nI j) (nI 1) = key kf vf (stnd kf vf j) := by unfold stR; rw [hv, ej]; rfl
  have s2 : stR kf vf (nI j) (nI 2) = lN (stnd kf vf j) := by unfold stR; rw [hv, ej]; rfl
  have so : ∀ {w : Int32}, inI w (nI 0) (nI 2) = false → stR kf vf (nI j) w = -1 := fun {w} h => by unfold stR; rw [hv, h]; rfl
  refine r_go (fun kk => e_lvs (lv' := [(0, .ref F), (1, .int (nI j)), (2, .int w)]) rfl kk) ?_
  refine r_go (fun kk => e_aload_n 0 dX5_standing_0 rfl kk) ?_
  refine r_go (fun kk => e_getP (some (YL.1 0)) dX5_standing_1 fl_X5_12 rfl hC.1.1 hC.2.1.1 kk) ?_
  refine r_go (fun kk => e_iload_n 1 dX5_standing_4 rfl kk) ?_
  refine r_go (fun kk => e_callV (ci := 0) (st := []) (st1 := [.ref (YL.1 (9 + j))]) (As := [.int (nI j)]) (k_unended (G := G) hq hj h4) dX5_standing_5 (by decide) cm_X0_unendedTask lk_X5_72 im_X0_unendedTask rfl sel_X0_unendedTask (hq.T 0 (by decide)) rfl rfl (Nat.le_of_ble_eq_true rfl) rfl kk) ?_
  refine r_go (fun kk => e_astore_n (lv' := [(3, .ref (YL.1 (9 + j))), (0, .ref F), (1, .int (nI j)), (2, .int w)]) dX5_standing_8 (by decide) rfl kk) ?_
  refine r_go (fun kk => e_aload_n 0 dX5_standing_9 rfl kk) ?_
  refine r_go (fun kk => e_ifnonnull 17 dX5_standing_10 (by decide) kk) ?_
  refine r_go (fun kk => e_aload_n 1 dX5_standing_17 rfl kk) ?_
  refine r_go (fun kk => e_getP (some (YL.1 0)) dX5_standing_18 fl_X5_12 rfl hC.1.1 hC.2.1.1 kk) ?_
  obtain ⟨_, m1, ⟨rfl, hq1, hσ⟩, E0x21⟩ := k_settle (G := G) hq hW hR
  refine r_go (fun kk => e_callV (ci := 0) (st := []) (st1 := []) (As := []) (E0x21) dX5_standing_21 (by decide) cm_X0_settle lk_X5_127 im_X0_settle rfl sel_X0_settle (hq.T 0 (by decide)) rfl rfl (Nat.le_of_ble_eq_true rfl) rfl kk) ?_
  have hPM : PM m o F YL AN m1 kf vf (gI m 105 F) := PM.op hC hS hH hq1 rfl rfl
  refine r_go (fun kk => e_iload_n 3 dX5_standing_24 rfl kk) ?_
  by_cases hsw : inI w (nI 0) (nI 2) = true
  · skip
    obtain ⟨jsw, hsw1, hsw2, rfl⟩ := inI_n (by decide) (by decide) hsw
    rcases (show jsw = 0 ∨ jsw = 1 ∨ jsw = 2 by omega) with rfl | rfl | rfl
    · skip
      refine r_go (fun kk => e_tabIn (off := 27) 52 dX5_standing_25 (by decide) (by decide) (by decide) (by decide) kk) ?_
      refine r_go (fun kk => e_aload_n 0 dX5_standing_52 rfl kk) ?_
      refine r_go (fun kk => e_getLv (rkA kf vf (stnd kf vf j)) dX5_standing_53 fl_X5_130 rfl (hq1.Tt (by omega)) (hσ j hj) kk) ?_
      refine r_go (fun kk => e_callS (st := []) (st1 := [.int (clX (rkA kf vf (stnd kf vf j)))]) (As := [.long (rkA kf vf (stnd kf vf j))]) (k_classOf (G := G) (rkA kf vf (stnd kf vf j))) dX5_standing_56 (by decide) cm_X5_classOf lk_X5_133 sm_X5_classOf rfl rfl (Nat.le_of_ble_eq_true rfl) rfl kk) ?_
      refine r_go (fun kk => e_i2l dX5_standing_59 kk) ?_
      exact r_ret ⟨by rw [s0, hR.cl hn2 hst], hPM⟩ (e_retL dX5_standing_60 rfl rfl)
    · skip
      refine r_go (fun kk => e_tabIn (off := 36) 61 dX5_standing_25 (by decide) (by decide) (by decide) (by decide) kk) ?_
      refine r_go (fun kk => e_aload_n 0 dX5_standing_61 rfl kk) ?_
      refine r_go (fun kk => e_getLv (rkA kf vf (stnd kf vf j)) dX5_standing_62 fl_X5_130 rfl (hq1.Tt (by omega)) (hσ j hj) kk) ?_
      refine r_go (fun kk => e_callS (st := []) (st1 := [.long (keX (rkA kf vf (stnd kf vf j)))]) (As := [.long (rkA kf vf (stnd kf vf j))]) (k_keyOf (G := G) (rkA kf vf (stnd kf vf j))) dX5_standing_65 (by decide) cm_X5_keyOf lk_X5_137 sm_X5_keyOf rfl rfl (Nat.le_of_ble_eq_true rfl) rfl kk) ?_
      exact r_ret ⟨by rw [s1, hR.ke hn2 hst], hPM⟩ (e_retL dX5_standing_68 rfl rfl)
    · skip
      refine r_go (fun kk => e_tabIn (off := 44) 69 dX5_standing_25 (by decide) (by decide) (by decide) (by decide) kk) ?_
      refine r_go (fun kk => e_aload_n 0 dX5_standing_69 rfl kk) ?_
      refine r_go (fun kk => e_getLv (rkA kf vf (stnd kf vf j)) dX5_standing_70 fl_X5_130 rfl (hq1.Tt (by omega)) (hσ j hj) kk) ?_
      refine r_go (fun kk => e_callS (st := []) (st1 := [.int (nuX (rkA kf vf (stnd kf vf j)))]) (As := [.long (rkA kf vf (stnd kf vf j))]) (k_numberOf (G := G) (rkA kf vf (stnd kf vf j))) dX5_standing_73 (by decide) cm_X5_numberOf lk_X5_141 sm_X5_numberOf rfl rfl (Nat.le_of_ble_eq_true rfl) rfl kk) ?_
      refine r_go (fun kk => e_i2l dX5_standing_76 kk) ?_
      exact r_ret ⟨by rw [s2, hR.nu hn2 hst, nI_l (by omega)], hPM⟩ (e_retL dX5_standing_77 rfl rfl)
  · skip
    rw [Bool.not_eq_true] at hsw
    refine r_go (fun kk => e_tabOut 78 dX5_standing_25 (inI_out (a := 0) (b := 2) (by decide) (by decide) hsw) (by decide) kk) ?_
    refine r_go (fun kk => e_ldc2 dX5_standing_78 cs_X5_118 kk) ?_
    exact r_ret ⟨by rw [so hsw], hPM⟩ (e_retL dX5_standing_81 rfl rfl)

theorem k5_standing (hC : CW m o F YL AN kf vf n s nf) (hS : SN kf vf n s) (hH : HI nf s kf vf n) (t w : Int32) : EvC G 2 uX5_standing [.ref F, .int t, .int w] m (fun r mm => r = some (.long (stR kf vf t w)) ∧ PM m o F YL AN mm kf vf (gI m 105 F)) := by
  have hq := hC.2.2.2.1.q
  have hn2 := hq.n2
  have h6 := hC.2.2.2.2.2
  have hs := hC.2.2.2.2.1.2.2.2.2.1
  by_cases hx : tIn kf t = true
  · obtain ⟨j, hj, rfl⟩ := tIn_n hq.n1 hn2 hx
    have ej : (nI j).toNatClampNeg = j := nI_clamp (by omega)
    by_cases h4 : kg kf j 6 = 4
    · have hv : lvg kf (nI j) = false := by unfold lvg; rw [ej, hx, decide_eq_false (not_not_intro h4)]; rfl
      exact EvC.ex (t5_stand0e hC hj w h4) ⟨by unfold stR; rw [hv]; rfl, PM.same hC hS hH⟩
    · exact t5_stand1 hC hS hH hj h4 w
  · rw [Bool.not_eq_true] at hx
    have hv : lvg kf t = false := by unfold lvg; rw [hx]; rfl
    exact EvC.ex (t5_stand0 hC w hx) ⟨by unfold stR; rw [hv]; rfl, PM.same hC hS hH⟩

set_option maxRecDepth 100000 in
set_option maxHeartbeats 4000000 in
theorem t5_bound0 (hC : CW m o F YL AN kf vf n s nf) {t : Int32} (hx : tIn kf t = false) : Ev G 4 uX5_bound [.ref F, .int t] m (some (.long (-1))) m := by
  refine Ev.of (by decide +kernel) (Nat.le_of_ble_eq_true rfl) ?_
  have hq := hC.2.2.2.1.q
  refine e_lvs (lv' := [(0, .ref F), (1, .int t)]) rfl ?_
  refine e_aload_n 0 dX5_bound_0 rfl ?_
  refine e_getP (some (YL.1 0)) dX5_bound_1 fl_X5_12 rfl hC.1.1 hC.2.1.1 ?_
  refine e_iload_n 1 dX5_bound_4 rfl ?_
  refine e_callV (ci := 0) (st := []) (st1 := [.null]) (As := [.int t]) (k_taskAtN (G := G) hq hx) dX5_bound_5 (by decide) cm_X0_taskAt lk_X5_112 im_X0_taskAt rfl sel_X0_taskAt (hq.T 0 (by decide)) rfl rfl (Nat.le_of_ble_eq_true rfl) rfl ?_
  refine e_astore_nN (lv' := [(2, .null), (0, .ref F), (1, .int t)]) dX5_bound_8 (by decide) rfl ?_
  refine e_aload_nN 0 dX5_bound_9 rfl ?_
  refine e_ifnullN 20 dX5_bound_10 (by decide) ?_
  refine e_ldc2 dX5_bound_20 cs_X5_118 ?_
  refine e_goto 34 dX5_bound_23 (by decide) ?_
  exact e_retL dX5_bound_34 rfl rfl

set_option maxRecDepth 100000 in
set_option maxHeartbeats 4000000 in
theorem t5_bound0r (hC : CW m o F YL AN kf vf n s nf) {j : Nat} (hj : j < n) (hx : ¬ kg kf j 6 = 0) : Ev G 4 uX5_bound [.ref F, .int (nI j)] m (some (.long (-1))) m := by
  refine Ev.of (by decide +kernel) (Nat.le_of_ble_eq_true rfl) ?_
  have hq := hC.2.2.2.1.q
  have hn2 := hq.n2
  refine e_lvs (lv' := [(0, .ref F), (1, .int (nI j))]) rfl ?_
  refine e_aload_n 0 dX5_bound_0 rfl ?_
  refine e_getP (some (YL.1 0)) dX5_bound_1 fl_X5_12 rfl hC.1.1 hC.2.1.1 ?_
  refine e_iload_n 1 dX5_bound_4 rfl ?_
  refine e_callV (ci := 0) (st := []) (st1 := [.ref (YL.1 (9 + j))]) (As := [.int (nI j)]) (k_taskAt (G := G) hq hj) dX5_bound_5 (by decide) cm_X0_taskAt lk_X5_112 im_X0_taskAt rfl sel_X0_taskAt (hq.T 0 (by decide)) rfl rfl (Nat.le_of_ble_eq_true rfl) rfl ?_
  refine e_astore_n (lv' := [(2, .ref (YL.1 (9 + j))), (0, .ref F), (1, .int (nI j))]) dX5_bound_8 (by decide) rfl ?_
  refine e_aload_n 0 dX5_bound_9 rfl ?_
  refine e_ifnull dX5_bound_10 ?_
  refine e_aload_n 0 dX5_bound_13 rfl ?_
  refine e_getIv (kg kf j 6) dX5_bound_14 fl_X5_181 rfl (hq.Tt (by omega)) (hq.gt (by omega) 6 _ (by decide) rfl) ?_
  refine e_if_eq 26 dX5_bound_17 (by decide) (fun h => absurd h (hx)) (fun _ => ?_)
  refine e_ldc2 dX5_bound_20 cs_X5_118 ?_
  refine e_goto 34 dX5_bound_23 (by decide) ?_
  exact e_retL dX5_bound_34 rfl rfl

set_option maxRecDepth 100000 in
set_option maxHeartbeats 4000000 in
theorem t5_bound1 (hC : CW m o F YL AN kf vf n s nf) (hS : SN kf vf n s) (hH : HI nf s kf vf n) {j : Nat} (hj : j < n) (hx : kg kf j 6 = 0) : EvC G 4 uX5_bound [.ref F, .int (nI j)] m (fun r mm => r = some (.long (bdR kf vf (nI j))) ∧ PM m o F YL AN mm kf vf (gI m 105 F)) := by
  refine EvC.of (by decide +kernel) (Nat.le_of_ble_eq_true rfl) ?_
  have hq := hC.2.2.2.1.q
  have hn2 := hq.n2
  obtain ⟨hW, z, h0, hz, hG⟩ := id hS
  have hs := hC.2.2.2.2.1.2.2.2.2.1
  have hR := hG.rh hW (by omega) (by omega)
  refine r_go (fun kk => e_lvs (lv' := [(0, .ref F), (1, .int (nI j))]) rfl kk) ?_
  refine r_go (fun kk => e_aload_n 0 dX5_bound_0 rfl kk) ?_
  refine r_go (fun kk => e_getP (some (YL.1 0)) dX5_bound_1 fl_X5_12 rfl hC.1.1 hC.2.1.1 kk) ?_
  refine r_go (fun kk => e_iload_n 1 dX5_bound_4 rfl kk) ?_
  refine r_go (fun kk => e_callV (ci := 0) (st := []) (st1 := [.ref (YL.1 (9 + j))]) (As := [.int (nI j)]) (k_taskAt (G := G) hq hj) dX5_bound_5 (by decide) cm_X0_taskAt lk_X5_112 im_X0_taskAt rfl sel_X0_taskAt (hq.T 0 (by decide)) rfl rfl (Nat.le_of_ble_eq_true rfl) rfl kk) ?_
  refine r_go (fun kk => e_astore_n (lv' := [(2, .ref (YL.1 (9 + j))), (0, .ref F), (1, .int (nI j))]) dX5_bound_8 (by decide) rfl kk) ?_
  refine r_go (fun kk => e_aload_n 0 dX5_bound_9 rfl kk) ?_
  refine r_go (fun kk => e_ifnull dX5_bound_10 kk) ?_
  refine r_go (fun kk => e_aload_n 0 dX5_bound_13 rfl kk) ?_
  refine r_go (fun kk => e_getIv (kg kf j 6) dX5_bound_14 fl_X5_181 rfl (hq.Tt (by omega)) (hq.gt (by omega) 6 _ (by decide) rfl) kk) ?_
  refine r_go (fun kk => e_if_eq 26 dX5_bound_17 (by decide) (fun _ => kk) (fun h => absurd h (not_not_intro hx))) ?_
  refine r_go (fun kk => e_aload_n 1 dX5_bound_26 rfl kk) ?_
  refine r_go (fun kk => e_getP (some (YL.1 0)) dX5_bound_27 fl_X5_12 rfl hC.1.1 hC.2.1.1 kk) ?_
  refine r_go (fun kk => e_aload_n 0 dX5_bound_30 rfl kk) ?_
  obtain ⟨_, m1, ⟨rfl, hq1⟩, E0x31⟩ := k_ticksUntilChosen (G := G) hq hj hW hG (by omega) (by omega) hx
  refine r_go (fun kk => e_callV (ci := 0) (st := []) (st1 := [.long (bdR kf vf (nI j))]) (As := [.ref (YL.1 (9 + j))]) (E0x31) dX5_bound_31 (by decide) cm_X0_ticksUntilChosen lk_X5_184 im_X0_ticksUntilChosen rfl sel_X0_ticksUntilChosen (hq.T 0 (by decide)) rfl rfl (Nat.le_of_ble_eq_true rfl) rfl kk) ?_
  exact r_ret ⟨rfl, PM.op hC hS hH hq1 rfl rfl⟩ (e_retL dX5_bound_34 rfl rfl)

theorem k5_bound (hC : CW m o F YL AN kf vf n s nf) (hS : SN kf vf n s) (hH : HI nf s kf vf n) (t : Int32) : EvC G 4 uX5_bound [.ref F, .int t] m (fun r mm => r = some (.long (bdR kf vf t)) ∧ PM m o F YL AN mm kf vf (gI m 105 F)) := by
  have hq := hC.2.2.2.1.q
  have hn2 := hq.n2
  have h6 := hC.2.2.2.2.2
  have hs := hC.2.2.2.2.1.2.2.2.2.1
  by_cases hx : tIn kf t = true
  · obtain ⟨j, hj, rfl⟩ := tIn_n hq.n1 hn2 hx
    have ej : (nI j).toNatClampNeg = j := nI_clamp (by omega)
    by_cases h4 : kg kf j 6 = 0
    · exact t5_bound1 hC hS hH hj h4
    · exact EvC.ex (t5_bound0r hC hj h4) ⟨by unfold bdR; rw [hx, ej, decide_eq_false h4]; rfl, PM.same hC hS hH⟩
  · rw [Bool.not_eq_true] at hx
    exact EvC.ex (t5_bound0 hC hx) ⟨by unfold bdR; rw [hx]; rfl, PM.same hC hS hH⟩

set_option maxRecDepth 100000 in
set_option maxHeartbeats 4000000 in
theorem t5_forge0 (hC : CW m o F YL AN kf vf n s nf) {c : Nat} (h3 : kf 3 = nI c) (hc : c ≤ 8000) (x w : Int32) (y : Int32) (hx : rowB kf x w = false) : Ev G 2 uX5_forge [.ref F, .int x, .int w, .int y] m (some (.int (nI 0))) (sI m 105 F (nI 1)) := by
  refine Ev.of (by decide +kernel) (Nat.le_of_ble_eq_true rfl) ?_
  have hq := hC.2.2.2.1.q
  refine e_lvs (lv' := [(0, .ref F), (1, .int x), (2, .int w), (3, .int y)]) rfl ?_
  refine e_aload_n 0 dX5_forge_0 rfl ?_
  refine e_getP (some (YL.1 0)) dX5_forge_1 fl_X5_12 rfl hC.1.1 hC.2.1.1 ?_
  refine e_getP (some (YL.1 3)) dX5_forge_4 fl_X5_150 rfl (hq.T 0 (by decide)) (hq.1.2.2.1.2.2.1) ?_
  refine e_iload_n 1 dX5_forge_7 rfl ?_
  refine e_iload_n 2 dX5_forge_8 rfl ?_
  refine e_callV (ci := 3) (st := []) (st1 := [.int (bI (rowB kf x w))]) (As := [.int x, .int w]) (k_has (G := G) hq h3 hc x w) dX5_forge_9 (by decide) cm_X3_has lk_X5_154 im_X3_has rfl sel_X3_has (hq.T 3 (by decide)) rfl rfl (Nat.le_of_ble_eq_true rfl) rfl ?_
  refine e_if_neB 23 dX5_forge_12 (by decide) (fun h => absurd h (by rw [hx]; decide)) (fun _ => ?_)
  refine e_aload_n 0 dX5_forge_15 rfl ?_
  refine e_ic (nI 1) dX5_forge_16 (by decide) ?_
  refine e_callV (ci := 5) (st := []) (st1 := [.int (-1)]) (As := [.int (nI 1)]) (k_refused (G := G) hC.1.1 (nI 1)) dX5_forge_17 (by decide) cm_X5_refused lk_X5_43 im_X5_refused rfl sel_X5_refused hC.1.1 rfl rfl (Nat.le_of_ble_eq_true rfl) rfl ?_
  refine e_pop dX5_forge_20 rfl ?_
  refine e_ic (nI 0) dX5_forge_21 (by decide) ?_
  exact e_retI dX5_forge_22 rfl rfl rfl

set_option maxRecDepth 100000 in
set_option maxHeartbeats 4000000 in
theorem t5_forge1 (hC : CW m o F YL AN kf vf n s nf) (hS : SN kf vf n s) (hH : HI nf s kf vf n) {c : Nat} (h3 : kf 3 = nI c) (hc : c ≤ 8000) (x w : Int32) (y : Int32) (hx : rowB kf x w = true) : EvC G 2 uX5_forge [.ref F, .int x, .int w, .int y] m (fun r mm => r = some (.int (nI 1)) ∧ PM m o F YL AN mm (fgK kf x w y) vf (nI 0)) := by
  refine EvC.of (by decide +kernel) (Nat.le_of_ble_eq_true rfl) ?_
  have hq := hC.2.2.2.1.q
  obtain ⟨i, j, hi, hj, ex, ew⟩ := row_n h3 hc hx
  have ek : ∀ q, q ≠ 62000 + 5 * i + j → fgK kf x w y q = kf q := fun q hq => by
    unfold fgK
    rw [if_pos hx, ex, ew, nI_clamp (by omega), nI_clamp (by omega)]
    exact upd_ne _ _ hq
  have ag6 : ∀ {q : Nat}, q < 62000 → fgK kf x w y q = kf q := fun hq => ek _ (by omega)
  have hH1 : HI nf s (fgK kf x w y) vf n := hH.cg (fun q h1 h2 h3 => ek q (by omega)) (AV.rf vf)
  have hS1 : SN (fgK kf x w y) vf n s := by
    obtain ⟨hW, z, h0, hz, hG⟩ := id hS
    exact ⟨wf_congr hW (fun q hq => ek q (by unfold rel at hq; omega)), z, (ag6 (by omega)).trans h0, hz, hG.cg hW (fun q hq => ek q (by unfold RG at hq; omega))⟩
  refine r_go (fun kk => e_lvs (lv' := [(0, .ref F), (1, .int x), (2, .int w), (3, .int y)]) rfl kk) ?_
  refine r_go (fun kk => e_aload_n 0 dX5_forge_0 rfl kk) ?_
  refine r_go (fun kk => e_getP (some (YL.1 0)) dX5_forge_1 fl_X5_12 rfl hC.1.1 hC.2.1.1 kk) ?_
  refine r_go (fun kk => e_getP (some (YL.1 3)) dX5_forge_4 fl_X5_150 rfl (hq.T 0 (by decide)) (hq.1.2.2.1.2.2.1) kk) ?_
  refine r_go (fun kk => e_iload_n 1 dX5_forge_7 rfl kk) ?_
  refine r_go (fun kk => e_iload_n 2 dX5_forge_8 rfl kk) ?_
  refine r_go (fun kk => e_callV (ci := 3) (st := []) (st1 := [.int (bI (rowB kf x w))]) (As := [.int x, .int w]) (k_has (G := G) hq h3 hc x w) dX5_forge_9 (by decide) cm_X3_has lk_X5_154 im_X3_has rfl sel_X3_has (hq.T 3 (by decide)) rfl rfl (Nat.le_of_ble_eq_true rfl) rfl kk) ?_
  refine r_go (fun kk => e_if_neB 23 dX5_forge_12 (by decide) (fun _ => kk) (fun h => absurd h (by rw [hx]; decide))) ?_
  refine r_go (fun kk => e_aload_n 0 dX5_forge_23 rfl kk) ?_
  refine r_go (fun kk => e_getP (some (YL.1 0)) dX5_forge_24 fl_X5_12 rfl hC.1.1 hC.2.1.1 kk) ?_
  refine r_go (fun kk => e_getP (some (YL.1 3)) dX5_forge_27 fl_X5_150 rfl (hq.T 0 (by decide)) (hq.1.2.2.1.2.2.1) kk) ?_
  refine r_go (fun kk => e_iload_n 1 dX5_forge_30 rfl kk) ?_
  refine r_go (fun kk => e_iload_n 2 dX5_forge_31 rfl kk) ?_
  refine r_go (fun kk => e_iload_n 3 dX5_forge_32 rfl kk) ?_
  obtain ⟨_, m1, ⟨rfl, hq1⟩, E0x33⟩ := k_grow (G := G) hq (by omega) h3 hc x w y
  have ek : fwK kf 62000 x w y = fgK kf x w y := rfl
  rw [ek] at hq1
  have hC1 := (hC.op hq1 rfl (ag6 (by omega))).1
  have hP1 := PM.op hC hS1 hH1 hq1 rfl (ag6 (by omega))
  refine r_go (fun kk => e_callV (ci := 3) (st := []) (st1 := []) (As := [.int x, .int w, .int y]) (E0x33) dX5_forge_33 (by decide) cm_X3_grow lk_X5_164 im_X3_grow rfl sel_X3_grow (hq.T 3 (by decide)) rfl rfl (Nat.le_of_ble_eq_true rfl) rfl kk) ?_
  refine r_go (fun kk => e_aload_n 0 dX5_forge_36 rfl kk) ?_
  refine r_go (fun kk => e_ic (nI 0) dX5_forge_37 (by decide) kk) ?_
  refine r_go (fun kk => e_putI (ci := 5) (k := 5) dX5_forge_38 fl_X5_32 rfl (fun q h => by cases h; rfl) ⟨rfl, rfl⟩ hC1.1.1 kk) ?_
  refine r_go (fun kk => e_ic (nI 1) dX5_forge_41 (by decide) kk) ?_
  exact r_ret ⟨rfl, hP1.f⟩ (e_retI dX5_forge_42 rfl rfl rfl)

theorem k5_forge (hC : CW m o F YL AN kf vf n s nf) (hS : SN kf vf n s) (hH : HI nf s kf vf n) (x w y : Int32) : EvC G 2 uX5_forge [.ref F, .int x, .int w, .int y] m (fun r mm => r = some (.int (bI (rowB kf x w))) ∧ PM m o F YL AN mm (fgK kf x w y) vf (if rowB kf x w then nI 0 else nI 1)) := by
  have hq := hC.2.2.2.1.q
  have hn2 := hq.n2
  have h6 := hC.2.2.2.2.2
  have hs := hC.2.2.2.2.1.2.2.2.2.1
  obtain ⟨c, hc, h3⟩ := hS.1.2.2.2.2.2.2.2.1
  by_cases hx : rowB kf x w = true
  · rw [hx, if_pos rfl]
    exact t5_forge1 hC hS hH h3 hc x w y hx
  · rw [Bool.not_eq_true] at hx
    rw [hx, if_neg (by decide)]
    refine EvC.ex (t5_forge0 hC h3 hc x w y hx) ⟨rfl, ?_⟩
    rw [show fgK kf x w y = kf by unfold fgK; rw [hx]; rfl]
    exact PM.ref hC hS hH _

end Class33
