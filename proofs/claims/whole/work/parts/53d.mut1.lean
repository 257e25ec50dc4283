/-! the class: calls that are noted -/
section Class29
variable {G : GG} {m : Mem} {o : Nat → Nat} {F : Nat} {YL : YY} {AN : Nat × Nat × Nat} {kf : KF} {vf : VF} {n s : Nat} {nf : Nat → Int64}

set_option maxRecDepth 100000 in
set_option maxHeartbeats 4000000 in
theorem t5_task1 (hC : CW m o F YL AN kf vf n s nf) {k p c : Int32} (hg : ¬ (inI k (nI 0) (nI 4) = true ∧ inI p (nI 0) (nI 31) = true ∧ inI c (nI 1) (nI 1000) = true)) : Ev G 4 uX5_task [.ref F, .int k, .int p, .int c] m (some (.int (-1))) (sI m 105 F (nI 1)) := by
  refine Ev.of (by decide +kernel) (Nat.le_of_ble_eq_true rfl) ?_
  refine e_lvs (lv' := [(0, .ref F), (1, .int k), (2, .int p), (3, .int c)]) rfl ?_
  refine e_iload_n 1 dX5_task_0 rfl ?_
  refine e_if_lt 26 dX5_task_1 (by decide) (fun h1 => ?_) (fun h1 => ?_)
  · skip
    have h1' := Int32.not_le.mpr h1
    refine e_aload_n 0 dX5_task_26 rfl ?_
    refine e_ic (nI 1) dX5_task_27 (by decide) ?_
    refine e_callV (ci := 5) (st := []) (st1 := [.int (-1)]) (As := [.int (nI 1)]) (k_refused (G := G) hC.1.1 (nI 1)) dX5_task_28 (by decide) cm_X5_refused lk_X5_43 im_X5_refused rfl sel_X5_refused hC.1.1 rfl rfl (Nat.le_of_ble_eq_true rfl) rfl ?_
    exact e_retI dX5_task_31 rfl rfl rfl
  · skip
    have h1' := Int32.not_lt.mp h1
    obtain ⟨j1, hj1, rfl⟩ := nI_of h1
    refine e_iload_n 1 dX5_task_4 rfl ?_
    refine e_ic (nI 4) dX5_task_5 (by decide) ?_
    refine e_icmp_gtN 26 dX5_task_6 (by decide) (by omega) (by omega) (fun q6 => ?_) (fun q6 => ?_)
    · skip
      have q6' := Nat.not_le.mpr q6
      refine e_aload_n 0 dX5_task_26 rfl ?_
      refine e_ic (nI 1) dX5_task_27 (by decide) ?_
      refine e_callV (ci := 5) (st := []) (st1 := [.int (-1)]) (As := [.int (nI 1)]) (k_refused (G := G) hC.1.1 (nI 1)) dX5_task_28 (by decide) cm_X5_refused lk_X5_43 im_X5_refused rfl sel_X5_refused hC.1.1 rfl rfl (Nat.le_of_ble_eq_true rfl) rfl ?_
      exact e_retI dX5_task_31 rfl rfl rfl
    · skip
      have q6' := Nat.not_lt.mpr q6
      refine e_iload_n 2 dX5_task_9 rfl ?_
      refine e_if_lt 26 dX5_task_10 (by decide) (fun h2 => ?_) (fun h2 => ?_)
      · skip
        have h2' := Int32.not_le.mpr h2
        refine e_aload_n 0 dX5_task_26 rfl ?_
        refine e_ic (nI 1) dX5_task_27 (by decide) ?_
        refine e_callV (ci := 5) (st := []) (st1 := [.int (-1)]) (As := [.int (nI 1)]) (k_refused (G := G) hC.1.1 (nI 1)) dX5_task_28 (by decide) cm_X5_refused lk_X5_43 im_X5_refused rfl sel_X5_refused hC.1.1 rfl rfl (Nat.le_of_ble_eq_true rfl) rfl ?_
        exact e_retI dX5_task_31 rfl rfl rfl
      · skip
        have h2' := Int32.not_lt.mp h2
        obtain ⟨j2, hj2, rfl⟩ := nI_of h2
        refine e_iload_n 2 dX5_task_13 rfl ?_
        refine e_bipush (v := nI 32) dX5_task_14 (by decide) ?_
        refine e_icmp_geN 26 dX5_task_16 (by decide) (by omega) (by omega) (fun q16 => ?_) (fun q16 => ?_)
        · skip
          have q16' := Nat.not_lt.mpr q16
          refine e_aload_n 0 dX5_task_26 rfl ?_
          refine e_ic (nI 1) dX5_task_27 (by decide) ?_
          refine e_callV (ci := 5) (st := []) (st1 := [.int (-1)]) (As := [.int (nI 1)]) (k_refused (G := G) hC.1.1 (nI 1)) dX5_task_28 (by decide) cm_X5_refused lk_X5_43 im_X5_refused rfl sel_X5_refused hC.1.1 rfl rfl (Nat.le_of_ble_eq_true rfl) rfl ?_
          exact e_retI dX5_task_31 rfl rfl rfl
        · skip
          have q16' := Nat.not_le.mpr q16
          refine e_iload_n 3 dX5_task_19 rfl ?_
          refine e_callS (st := []) (st1 := [.int (bI (inI c (nI 1) (nI 1000)))]) (As := [.int c]) (k_isShare (G := G) c) dX5_task_20 (by decide) cm_X5_isShare lk_X5_61 sm_X5_isShare rfl rfl (Nat.le_of_ble_eq_true rfl) rfl ?_
          refine e_if_neB 32 dX5_task_23 (by decide) (fun b23 => ?_) (fun b23 => ?_)
          · skip
            exact absurd (⟨inI_of (by omega) (by omega) (by decide), inI_of (by omega) (by omega) (by decide), b23⟩ : _ ∧ _ ∧ _) hg
          · skip
            refine e_aload_n 0 dX5_task_26 rfl ?_
            refine e_ic (nI 1) dX5_task_27 (by decide) ?_
            refine e_callV (ci := 5) (st := []) (st1 := [.int (-1)]) (As := [.int (nI 1)]) (k_refused (G := G) hC.1.1 (nI 1)) dX5_task_28 (by decide) cm_X5_refused lk_X5_43 im_X5_refused rfl sel_X5_refused hC.1.1 rfl rfl (Nat.le_of_ble_eq_true rfl) rfl ?_
            exact e_retI dX5_task_31 rfl rfl rfl

set_option maxRecDepth 100000 in
set_option maxHeartbeats 4000000 in
theorem t5_task2 (hC : CW m o F YL AN kf vf n s nf) {a1 p1 c1 : Nat} (ha : a1 ≤ 4) (hp : p1 ≤ 31) (hc1 : 1 ≤ c1) (hc : c1 ≤ 1000) (hn : n = 200) : Ev G 4 uX5_task [.ref F, .int (nI a1), .int (nI p1), .int (nI c1)] m (some (.int (-1))) (sI m 105 F (nI 2)) := by
  refine Ev.of (by decide +kernel) (Nat.le_of_ble_eq_true rfl) ?_
  have hq := hC.2.2.2.1.q
  have hb := inI_of (j := c1) (a := 1) (b := 1000) hc1 hc (by decide)
  refine e_lvs (lv' := [(0, .ref F), (1, .int (nI a1)), (2, .int (nI p1)), (3, .int (nI c1))]) rfl ?_
  refine e_iload_n 1 dX5_task_0 rfl ?_
  refine e_if_lt 26 dX5_task_1 (by decide) (fun h => absurd h (nI_pos (by omega))) (fun _ => ?_)
  refine e_iload_n 1 dX5_task_4 rfl ?_
  refine e_ic (nI 4) dX5_task_5 (by decide) ?_
  refine e_icmp_gtN 26 dX5_task_6 (by decide) (by omega) (by omega) (fun h => absurd h (by omega)) (fun _ => ?_)
  refine e_iload_n 2 dX5_task_9 rfl ?_
  refine e_if_lt 26 dX5_task_10 (by decide) (fun h => absurd h (nI_pos (by omega))) (fun _ => ?_)
  refine e_iload_n 2 dX5_task_13 rfl ?_
  refine e_bipush (v := nI 32) dX5_task_14 (by decide) ?_
  refine e_icmp_geN 26 dX5_task_16 (by decide) (by omega) (by omega) (fun h => absurd h (by omega)) (fun _ => ?_)
  refine e_iload_n 3 dX5_task_19 rfl ?_
  refine e_callS (st := []) (st1 := [.int (bI (inI (nI c1) (nI 1) (nI 1000)))]) (As := [.int (nI c1)]) (k_isShare (G := G) (nI c1)) dX5_task_20 (by decide) cm_X5_isShare lk_X5_61 sm_X5_isShare rfl rfl (Nat.le_of_ble_eq_true rfl) rfl ?_
  refine e_if_neB 32 dX5_task_23 (by decide) (fun _ => ?_) (fun h => absurd h (by rw [hb]; decide))
  refine e_aload_n 0 dX5_task_32 rfl ?_
  refine e_getP (some (YL.1 0)) dX5_task_33 fl_X5_12 rfl hC.1.1 hC.2.1.1 ?_
  refine e_getIv (nI n) dX5_task_36 fl_X5_65 rfl (hq.T 0 (by decide)) hq.n7 ?_
  refine e_sipush (v := nI 200) dX5_task_39 (by decide) ?_
  refine e_icmp_ltN 51 dX5_task_42 (by decide) (by omega) (by omega) (fun h => absurd h (by omega)) (fun _ => ?_)
  refine e_aload_n 0 dX5_task_45 rfl ?_
  refine e_ic (nI 2) dX5_task_46 (by decide) ?_
  refine e_callV (ci := 5) (st := []) (st1 := [.int (-1)]) (As := [.int (nI 2)]) (k_refused (G := G) hC.1.1 (nI 2)) dX5_task_47 (by decide) cm_X5_refused lk_X5_43 im_X5_refused rfl sel_X5_refused hC.1.1 rfl rfl (Nat.le_of_ble_eq_true rfl) rfl ?_
  exact e_retI dX5_task_50 rfl rfl rfl

set_option maxRecDepth 100000 in
set_option maxHeartbeats 4000000 in
theorem t5_task3 (hC : CW m o F YL AN kf vf n s nf) {a1 p1 c1 : Nat} (ha : a1 ≤ 4) (hp : p1 ≤ 31) (hc1 : 1 ≤ c1) (hc : c1 ≤ 1000) (hn : n < 200) (hs9 : s = 1000) : Ev G 4 uX5_task [.ref F, .int (nI a1), .int (nI p1), .int (nI c1)] m (some (.int (-1))) (sI m 105 F (nI 5)) := by
  refine Ev.of (by decide +kernel) (Nat.le_of_ble_eq_true rfl) ?_
  have hq := hC.2.2.2.1.q
  have hb := inI_of (j := c1) (a := 1) (b := 1000) hc1 hc (by decide)
  refine e_lvs (lv' := [(0, .ref F), (1, .int (nI a1)), (2, .int (nI p1)), (3, .int (nI c1))]) rfl ?_
  refine e_iload_n 1 dX5_task_0 rfl ?_
  refine e_if_lt 26 dX5_task_1 (by decide) (fun h => absurd h (nI_pos (by omega))) (fun _ => ?_)
  refine e_iload_n 1 dX5_task_4 rfl ?_
  refine e_ic (nI 4) dX5_task_5 (by decide) ?_
  refine e_icmp_gtN 26 dX5_task_6 (by decide) (by omega) (by omega) (fun h => absurd h (by omega)) (fun _ => ?_)
  refine e_iload_n 2 dX5_task_9 rfl ?_
  refine e_if_lt 26 dX5_task_10 (by decide) (fun h => absurd h (nI_pos (by omega))) (fun _ => ?_)
  refine e_iload_n 2 dX5_task_13 rfl ?_
  refine e_bipush (v := nI 32) dX5_task_14 (by decide) ?_
  refine e_icmp_geN 26 dX5_task_16 (by decide) (by omega) (by omega) (fun h => absurd h (by omega)) (fun _ => ?_)
  refine e_iload_n 3 dX5_task_19 rfl ?_
  refine e_callS (st := []) (st1 := [.int (bI (inI (nI c1) (nI 1) (nI 1000)))]) (As := [.int (nI c1)]) (k_isShare (G := G) (nI c1)) dX5_task_20 (by decide) cm_X5_isShare lk_X5_61 sm_X5_isShare rfl rfl (Nat.le_of_ble_eq_true rfl) rfl ?_
  refine e_if_neB 32 dX5_task_23 (by decide) (fun _ => ?_) (fun h => absurd h (by rw [hb]; decide))
  refine e_aload_n 0 dX5_task_32 rfl ?_
  refine e_getP (some (YL.1 0)) dX5_task_33 fl_X5_12 rfl hC.1.1 hC.2.1.1 ?_
  refine e_getIv (nI n) dX5_task_36 fl_X5_65 rfl (hq.T 0 (by decide)) hq.n7 ?_
  refine e_sipush (v := nI 200) dX5_task_39 (by decide) ?_
  refine e_icmp_ltN 51 dX5_task_42 (by decide) (by omega) (by omega) (fun _ => ?_) (fun h => absurd h (by omega))
  refine e_aload_n 0 dX5_task_51 rfl ?_
  refine e_ic (nI 1) dX5_task_52 (by decide) ?_
  refine e_iload_n 1 dX5_task_53 rfl ?_
  refine e_i2lN dX5_task_54 (by omega) ?_
  refine e_iload_n 2 dX5_task_55 rfl ?_
  refine e_i2lN dX5_task_56 (by omega) ?_
  refine e_iload_n 3 dX5_task_57 rfl ?_
  refine e_i2lN dX5_task_58 (by omega) ?_
  refine e_callV (ci := 5) (st := []) (st1 := [.int (nI 0)]) (As := [.int (nI 1), .long (lN a1), .long (lN p1), .long (lN c1)]) (k_noted0 (G := G) hC hs9 (nI 1) (lN a1) (lN p1) (lN c1)) dX5_task_59 (by decide) cm_X5_noted lk_X5_53 im_X5_noted rfl sel_X5_noted hC.1.1 rfl rfl (Nat.le_of_ble_eq_true rfl) rfl ?_
  refine e_if_eq 78 dX5_task_62 (by decide) (fun _ => ?_) (fun h => absurd h (by decide))
  refine e_ic ((-1)) dX5_task_78 (by decide) ?_
  exact e_retI dX5_task_79 rfl rfl rfl

set_option maxRecDepth 100000 in
set_option maxHeartbeats 4000000 in
theorem t5_task4 (hC : CW m o F YL AN kf vf n s nf) (hS : SN kf vf n s) (hH : HI nf s kf vf n) (hs9 : s < 1000) {a1 p1 c1 : Nat} (ha : a1 ≤ 4) (hp : p1 ≤ 31) (hc1 : 1 ≤ c1) (hc : c1 ≤ 1000) (hn : n < 200) : EvC G 4 uX5_task [.ref F, .int (nI a1), .int (nI p1), .int (nI c1)] m (fun r mm => r = some (.int (nI n)) ∧ PM m o F YL AN mm (adK (upd kf 6 (nI (s + 1))) n (nI a1) (nI p1) (nI c1) (nI 100) (nI 0)) (vp_updL vf n (lvF (upd kf 6 (nI (s + 1))) vf n).2) (nI 0)) := by
  refine EvC.of (by decide +kernel) (Nat.le_of_ble_eq_true rfl) ?_
  have hq := hC.2.2.2.1.q
  obtain ⟨k1, hk1⟩ : ∃ k1, k1 = upd kf 6 (nI (s + 1)) := ⟨_, rfl⟩
  have hS1 : SN k1 vf n s := by rw [hk1]; exact hS.six _
  have hn2 := hq.n2
  have hb := inI_of (j := c1) (a := 1) (b := 1000) hc1 hc (by decide)
  refine r_go (fun kk => e_lvs (lv' := [(0, .ref F), (1, .int (nI a1)), (2, .int (nI p1)), (3, .int (nI c1))]) rfl kk) ?_
  refine r_go (fun kk => e_iload_n 1 dX5_task_0 rfl kk) ?_
  refine r_go (fun kk => e_if_lt 26 dX5_task_1 (by decide) (fun h => absurd h (nI_pos (by omega))) (fun _ => kk)) ?_
  refine r_go (fun kk => e_iload_n 1 dX5_task_4 rfl kk) ?_
  refine r_go (fun kk => e_ic (nI 4) dX5_task_5 (by decide) kk) ?_
  refine r_go (fun kk => e_icmp_gtN 26 dX5_task_6 (by decide) (by omega) (by omega) (fun h => absurd h (by omega)) (fun _ => kk)) ?_
  refine r_go (fun kk => e_iload_n 2 dX5_task_9 rfl kk) ?_
  refine r_go (fun kk => e_if_lt 26 dX5_task_10 (by decide) (fun h => absurd h (nI_pos (by omega))) (fun _ => kk)) ?_
  refine r_go (fun kk => e_iload_n 2 dX5_task_13 rfl kk) ?_
  refine r_go (fun kk => e_bipush (v := nI 32) dX5_task_14 (by decide) kk) ?_
  refine r_go (fun kk => e_icmp_geN 26 dX5_task_16 (by decide) (by omega) (by omega) (fun h => absurd h (by omega)) (fun _ => kk)) ?_
  refine r_go (fun kk => e_iload_n 3 dX5_task_19 rfl kk) ?_
  refine r_go (fun kk => e_callS (st := []) (st1 := [.int (bI (inI (nI c1) (nI 1) (nI 1000)))]) (As := [.int (nI c1)]) (k_isShare (G := G) (nI c1)) dX5_task_20 (by decide) cm_X5_isShare lk_X5_61 sm_X5_isShare rfl rfl (Nat.le_of_ble_eq_true rfl) rfl kk) ?_
  refine r_go (fun kk => e_if_neB 32 dX5_task_23 (by decide) (fun _ => kk) (fun h => absurd h (by rw [hb]; decide))) ?_
  refine r_go (fun kk => e_aload_n 0 dX5_task_32 rfl kk) ?_
  refine r_go (fun kk => e_getP (some (YL.1 0)) dX5_task_33 fl_X5_12 rfl hC.1.1 hC.2.1.1 kk) ?_
  refine r_go (fun kk => e_getIv (nI n) dX5_task_36 fl_X5_65 rfl (hq.T 0 (by decide)) hq.n7 kk) ?_
  refine r_go (fun kk => e_sipush (v := nI 200) dX5_task_39 (by decide) kk) ?_
  refine r_go (fun kk => e_icmp_ltN 51 dX5_task_42 (by decide) (by omega) (by omega) (fun _ => kk) (fun h => absurd h (by omega))) ?_
  refine r_go (fun kk => e_aload_n 0 dX5_task_51 rfl kk) ?_
  refine r_go (fun kk => e_ic (nI 1) dX5_task_52 (by decide) kk) ?_
  refine r_go (fun kk => e_iload_n 1 dX5_task_53 rfl kk) ?_
  refine r_go (fun kk => e_i2lN dX5_task_54 (by omega) kk) ?_
  refine r_go (fun kk => e_iload_n 2 dX5_task_55 rfl kk) ?_
  refine r_go (fun kk => e_i2lN dX5_task_56 (by omega) kk) ?_
  refine r_go (fun kk => e_iload_n 3 dX5_task_57 rfl kk) ?_
  refine r_go (fun kk => e_i2lN dX5_task_58 (by omega) kk) ?_
  obtain ⟨_, m1, ⟨rfl, o1, A1, hC1, hR1, hs1⟩, E0x59⟩ := k_noted1 (G := G) hC hs9 (nI 1) (lN a1) (lN p1) (lN c1)
  refine r_go (fun kk => e_callV (ci := 5) (st := []) (st1 := [.int (nI 1)]) (As := [.int (nI 1), .long (lN a1), .long (lN p1), .long (lN c1)]) (E0x59) dX5_task_59 (by decide) cm_X5_noted lk_X5_53 im_X5_noted rfl sel_X5_noted hC.1.1 rfl rfl (Nat.le_of_ble_eq_true rfl) rfl kk) ?_
  rw [← hk1] at hC1
  have hq1 := hC1.2.2.2.1.q
  refine r_go (fun kk => e_if_eq 78 dX5_task_62 (by decide) (fun h => absurd h (by decide)) (fun _ => kk)) ?_
  refine r_go (fun kk => e_aload_n 0 dX5_task_65 rfl kk) ?_
  refine r_go (fun kk => e_getP (some (YL.1 0)) dX5_task_66 fl_X5_12 rfl hC1.1.1 hC1.2.1.1 kk) ?_
  refine r_go (fun kk => e_iload_n 1 dX5_task_69 rfl kk) ?_
  refine r_go (fun kk => e_iload_n 2 dX5_task_70 rfl kk) ?_
  refine r_go (fun kk => e_iload_n 3 dX5_task_71 rfl kk) ?_
  obtain ⟨_, m2, ⟨rfl, hq2⟩, E0x72⟩ := k_addTask (G := G) hq1 (by omega) hn (nI a1) (nI p1) (nI c1)
  refine r_go (fun kk => e_callV (ci := 0) (st := []) (st1 := [.int (nI n)]) (As := [.int (nI a1), .int (nI p1), .int (nI c1)]) (E0x72) dX5_task_72 (by decide) cm_X0_addTask lk_X5_68 im_X0_addTask rfl sel_X0_addTask (hq1.T 0 (by decide)) rfl rfl (Nat.le_of_ble_eq_true rfl) rfl kk) ?_
  refine r_go (fun kk => e_goto 79 dX5_task_75 (by decide) kk) ?_
  exact r_ret ⟨rfl, by rw [← hk1]; exact PM.mk hS hH hk1 hC1 hR1 hs1 hq2 rfl (adK_at _ _ _ _ _ _ _ _ (by omega) (by omega)) ((sn_task hS1 hn ⟨p1, by omega, rfl⟩ ⟨c1, hc1, hc, rfl⟩).up (by omega)) (Or.inr (Or.inl ⟨nI a1, nI p1, nI c1, hn, nI_l (by omega), (nI_l (by omega)).symm, (nI_l (by omega)).symm, (nI_l (by omega)).symm, rfl, rfl, rfl⟩))⟩ (e_retI dX5_task_79 rfl rfl rfl)

theorem k5_task (hC : CW m o F YL AN kf vf n s nf) (hS : SN kf vf n s) (hH : HI nf s kf vf n) (k p c : Int32) : EvC G 4 uX5_task [.ref F, .int k, .int p, .int c] m (fun r mm => r = some (.int (taskR kf k p c)) ∧ PM m o F YL AN mm (taskK kf k p c) (taskV kf vf k p c) (rfs kf (whyTask kf k p c))) := by
  have hq := hC.2.2.2.1.q
  have hn2 := hq.n2
  have h6 := hC.2.2.2.2.2
  have hs := hC.2.2.2.2.1.2.2.2.2.1
  have nt : nT kf = n := nT_of hq.n1 hn2
  by_cases hg : inI k (nI 0) (nI 4) = true ∧ inI p (nI 0) (nI 31) = true ∧ inI c (nI 1) (nI 1000) = true
  · obtain ⟨g1, g2, g3⟩ := hg
    have hw : whyTask kf k p c = if kf 1 = 200 then nI 2 else nI 0 := by unfold whyTask; rw [g1, g2, g3]; rfl
    obtain ⟨a1, -, ha, rfl⟩ := inI_n (by decide) (by decide) g1
    obtain ⟨p1, -, hp, rfl⟩ := inI_n (by decide) (by decide) g2
    obtain ⟨c1, hc1, hc, rfl⟩ := inI_n (by decide) (by decide) g3
    by_cases hn : n = 200
    · rw [if_pos (by rw [hq.n1, hn]; rfl)] at hw
      obtain ⟨e1, e2, e3⟩ := rf_no (kf := kf) (w := nI 2) (by decide)
      unfold taskR taskK taskV
      rw [hw, e1, e2, e3]
      exact EvC.ex (t5_task2 hC ha hp hc1 hc hn) ⟨rfl, PM.ref hC hS hH _⟩
    · rw [if_neg (fun q => hn ((nI_eq (by omega) (by decide)).mp (hq.n1.symm.trans (q.trans (show (200 : Int32) = nI 200 from rfl)))))] at hw
      unfold taskR taskK taskV
      rw [hw]
      by_cases h9 : s = 1000
      · obtain ⟨e1, e2, e3⟩ := rf_full (kf := kf) (by rw [h6, h9])
        rw [e1, e2, e3]
        exact EvC.ex (t5_task3 hC ha hp hc1 hc (by omega) h9) ⟨rfl, PM.ref hC hS hH _⟩
      · obtain ⟨e1, e2, e3⟩ := rf_ok h6 (by omega)
        rw [e1, e2, e3, nt]
        refine (t5_task4 hC hS hH (by omega) ha hp hc1 hc (by omega)).mono (fun r m' h => ?_)
        rw [if_neg (by decide), if_neg (by decide), if_neg (by decide), hq.n1]
        exact h
  · have hw : whyTask kf k p c = nI 1 := by
      unfold whyTask
      rw [if_neg (fun q => hg (by rw [Bool.and_eq_true, Bool.and_eq_true] at q; exact ⟨q.1.1, q.1.2, q.2⟩))]
    obtain ⟨e1, e2, e3⟩ := rf_no (kf := kf) (w := nI 1) (by decide)
    unfold taskR taskK taskV
    rw [hw, e1, e2, e3]
    exact EvC.ex (t5_task1 hC hg) ⟨rfl, PM.ref hC hS hH _⟩

end Class29
