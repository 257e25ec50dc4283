/-! the class: questions -/
theorem hm_living (kf : KF) : ∀ n, nI n - hmF kf (nI 4) n = (cnF kf n).1 := by
  intro n
  induction n with
  | zero =>
    show nI 0 - nI 0 = nI 0
    decide
  | succ n ih =>
    show nI (n + 1) - (hmF kf (nI 4) n + (if kg kf n 6 = nI 4 then nI 1 else nI 0)) = (cnF kf n).1 + (if kg kf n 6 = 4 then nI 0 else nI 1)
    rw [← ih, ← nI_add]
    by_cases c : kg kf n 6 = 4
    · rw [if_pos (show kg kf n 6 = nI 4 from c), if_pos c]
      generalize nI n = a
      generalize hmF kf (nI 4) n = b
      show a + 1 - (b + 1) = a - b + 0
      rw [Int32.add_zero]
      apply Int32.toBitVec_inj.mp
      rw [Int32.toBitVec_sub, Int32.toBitVec_sub, Int32.toBitVec_add, Int32.toBitVec_add]
      generalize Int32.toBitVec 1 = c
      bv_omega
    · rw [if_neg (show ¬ kg kf n 6 = nI 4 from c), if_neg c]
      generalize nI n = a
      generalize hmF kf (nI 4) n = b
      show a + 1 - (b + 0) = a - b + 1
      rw [Int32.add_zero, Int32.sub_eq_add_neg, Int32.sub_eq_add_neg, Int32.add_assoc, Int32.add_comm 1 (-b), Int32.add_assoc]
theorem hm_ready (kf : KF) : ∀ n, hmF kf (nI 0) n = (cnF kf n).2 := by
  intro n
  induction n with
  | zero => rfl
  | succ n ih =>
    show hmF kf (nI 0) n + (if kg kf n 6 = nI 0 then nI 1 else nI 0) = (cnF kf n).2 + (if kg kf n 6 = 0 then nI 1 else nI 0)
    rw [ih]
    rfl
section Class32
variable {G : GG} {m : Mem} {o : Nat → Nat} {F : Nat} {YL : YY} {AN : Nat × Nat × Nat} {kf : KF} {vf : VF} {n s : Nat} {nf : Nat → Int64}

set_option maxRecDepth 100000 in
set_option maxHeartbeats 4000000 in
theorem t5_chosen0 (hC : CW m o F YL AN kf vf n s nf) {x : Int32} (hx : inI x (nI 0) (nI 3) = false) : Ev G 0 uX5_chosen [.ref F, .int x] m (some (.int (-1))) m := by
  refine Ev.of (by decide +kernel) (Nat.le_of_ble_eq_true rfl) ?_
  refine e_lvs (lv' := [(0, .ref F), (1, .int x)]) rfl ?_
  refine e_iload_n 1 dX5_chosen_0 rfl ?_
  refine e_if_lt 21 dX5_chosen_1 (by decide) (fun h1 => ?_) (fun h1 => ?_)
  · skip
    have h1' := Int32.not_le.mpr h1
    refine e_ic ((-1)) dX5_chosen_21 (by decide) ?_
    exact e_retI dX5_chosen_22 rfl rfl rfl
  · skip
    have h1' := Int32.not_lt.mp h1
    obtain ⟨j1, hj1, rfl⟩ := nI_of h1
    refine e_iload_n 1 dX5_chosen_4 rfl ?_
    refine e_ic (nI 4) dX5_chosen_5 (by decide) ?_
    refine e_icmp_geN 21 dX5_chosen_6 (by decide) (by omega) (by omega) (fun q => ?_) (fun q => ?_)
    · skip
      have q' := Nat.not_lt.mpr q
      refine e_ic ((-1)) dX5_chosen_21 (by decide) ?_
      exact e_retI dX5_chosen_22 rfl rfl rfl
    · skip
      have q' := Nat.not_le.mpr q
      exact absurd (inI_of (j := j1) (a := 0) (b := 3) (by omega) (by omega) (by decide)) (by rw [hx]; decide)

set_option maxRecDepth 100000 in
set_option maxHeartbeats 4000000 in
theorem t5_chosen1 (hC : CW m o F YL AN kf vf n s nf) {j : Nat} (hj : j ≤ 3) : Ev G 0 uX5_chosen [.ref F, .int (nI j)] m (some (.int (kf (7 + j)))) m := by
  refine Ev.of (by decide +kernel) (Nat.le_of_ble_eq_true rfl) ?_
  have hq := hC.2.2.2.1.q
  refine e_lvs (lv' := [(0, .ref F), (1, .int (nI j))]) rfl ?_
  refine e_iload_n 1 dX5_chosen_0 rfl ?_
  refine e_if_lt 21 dX5_chosen_1 (by decide) (fun h => absurd h (nI_pos (by omega))) (fun _ => ?_)
  refine e_iload_n 1 dX5_chosen_4 rfl ?_
  refine e_ic (nI 4) dX5_chosen_5 (by decide) ?_
  refine e_icmp_geN 21 dX5_chosen_6 (by decide) (by omega) (by omega) (fun h => absurd h (by omega)) (fun _ => ?_)
  refine e_aload_n 0 dX5_chosen_9 rfl ?_
  refine e_getP (some (YL.1 0)) dX5_chosen_10 fl_X5_12 rfl hC.1.1 hC.2.1.1 ?_
  refine e_getP (some (YL.1 6)) dX5_chosen_13 fl_X5_108 rfl (hq.T 0 (by decide)) (hq.1.2.2.1.2.2.2.2.1) ?_
  refine e_iload_n 1 dX5_chosen_16 rfl ?_
  refine e_ialdN (kf (7 + j)) dX5_chosen_17 (hq.T 6 (by decide)) (by rw [hq.1.2.1.2.2.2.1]; exact (by omega)) (by rw [hq.1.2.1.2.2.2.1]; decide) (hq.2.1.2.1.1 j (by omega)) ?_
  refine e_goto 22 dX5_chosen_18 (by decide) ?_
  exact e_retI dX5_chosen_22 rfl rfl rfl

theorem k5_chosen (hC : CW m o F YL AN kf vf n s nf) (hS : SN kf vf n s) (hH : HI nf s kf vf n) (x : Int32) : EvC G 0 uX5_chosen [.ref F, .int x] m (fun r mm => r = some (.int (chsR kf x)) ∧ PM m o F YL AN mm kf vf (gI m 105 F)) := by
  have hq := hC.2.2.2.1.q
  have hn2 := hq.n2
  have h6 := hC.2.2.2.2.2
  have hs := hC.2.2.2.2.1.2.2.2.2.1
  by_cases hx : inI x (nI 0) (nI 3) = true
  · obtain ⟨j, -, hj, rfl⟩ := inI_n (by decide) (by decide) hx
    exact EvC.ex (t5_chosen1 hC hj) ⟨by unfold chsR; rw [if_pos hx, nI_clamp (by omega)], PM.same hC hS hH⟩
  · rw [Bool.not_eq_true] at hx
    exact EvC.ex (t5_chosen0 hC hx) ⟨by unfold chsR; rw [if_neg (by rw [hx]; decide)], PM.same hC hS hH⟩

set_option maxRecDepth 100000 in
set_option maxHeartbeats 4000000 in
theorem t5_trace0 (hC : CW m o F YL AN kf vf n s nf) {x : Int32} (hx : inI x (nI 0) (nI 11) = false) : Ev G 0 uX5_trace [.ref F, .int x] m (some (.int (-1))) m := by
  refine Ev.of (by decide +kernel) (Nat.le_of_ble_eq_true rfl) ?_
  refine e_lvs (lv' := [(0, .ref F), (1, .int x)]) rfl ?_
  refine e_iload_n 1 dX5_trace_0 rfl ?_
  refine e_if_lt 22 dX5_trace_1 (by decide) (fun h1 => ?_) (fun h1 => ?_)
  · skip
    have h1' := Int32.not_le.mpr h1
    refine e_ic ((-1)) dX5_trace_22 (by decide) ?_
    exact e_retI dX5_trace_23 rfl rfl rfl
  · skip
    have h1' := Int32.not_lt.mp h1
    obtain ⟨j1, hj1, rfl⟩ := nI_of h1
    refine e_iload_n 1 dX5_trace_4 rfl ?_
    refine e_bipush (v := nI 12) dX5_trace_5 (by decide) ?_
    refine e_icmp_geN 22 dX5_trace_7 (by decide) (by omega) (by omega) (fun q => ?_) (fun q => ?_)
    · skip
      have q' := Nat.not_lt.mpr q
      refine e_ic ((-1)) dX5_trace_22 (by decide) ?_
      exact e_retI dX5_trace_23 rfl rfl rfl
    · skip
      have q' := Nat.not_le.mpr q
      exact absurd (inI_of (j := j1) (a := 0) (b := 11) (by omega) (by omega) (by decide)) (by rw [hx]; decide)

set_option maxRecDepth 100000 in
set_option maxHeartbeats 4000000 in
theorem t5_trace1 (hC : CW m o F YL AN kf vf n s nf) {j : Nat} (hj : j ≤ 11) : Ev G 0 uX5_trace [.ref F, .int (nI j)] m (some (.int (kf (220 + j)))) m := by
  refine Ev.of (by decide +kernel) (Nat.le_of_ble_eq_true rfl) ?_
  have hq := hC.2.2.2.1.q
  refine e_lvs (lv' := [(0, .ref F), (1, .int (nI j))]) rfl ?_
  refine e_iload_n 1 dX5_trace_0 rfl ?_
  refine e_if_lt 22 dX5_trace_1 (by decide) (fun h => absurd h (nI_pos (by omega))) (fun _ => ?_)
  refine e_iload_n 1 dX5_trace_4 rfl ?_
  refine e_bipush (v := nI 12) dX5_trace_5 (by decide) ?_
  refine e_icmp_geN 22 dX5_trace_7 (by decide) (by omega) (by omega) (fun h => absurd h (by omega)) (fun _ => ?_)
  refine e_aload_n 0 dX5_trace_10 rfl ?_
  refine e_getP (some (YL.1 0)) dX5_trace_11 fl_X5_12 rfl hC.1.1 hC.2.1.1 ?_
  refine e_getP (some (YL.1 8)) dX5_trace_14 fl_X5_188 rfl (hq.T 0 (by decide)) (hq.1.2.2.1.2.2.2.2.2.2.1) ?_
  refine e_iload_n 1 dX5_trace_17 rfl ?_
  refine e_ialdN (kf (220 + j)) dX5_trace_18 (hq.T 8 (by decide)) (by rw [hq.1.2.1.2.2.2.2.2]; exact (by omega)) (by rw [hq.1.2.1.2.2.2.2.2]; decide) (hq.2.1.2.1.2.2.1 j (by omega)) ?_
  refine e_goto 23 dX5_trace_19 (by decide) ?_
  exact e_retI dX5_trace_23 rfl rfl rfl

theorem k5_trace (hC : CW m o F YL AN kf vf n s nf) (hS : SN kf vf n s) (hH : HI nf s kf vf n) (x : Int32) : EvC G 0 uX5_trace [.ref F, .int x] m (fun r mm => r = some (.int (trR kf x)) ∧ PM m o F YL AN mm kf vf (gI m 105 F)) := by
  have hq := hC.2.2.2.1.q
  have hn2 := hq.n2
  have h6 := hC.2.2.2.2.2
  have hs := hC.2.2.2.2.1.2.2.2.2.1
  by_cases hx : inI x (nI 0) (nI 11) = true
  · obtain ⟨j, -, hj, rfl⟩ := inI_n (by decide) (by decide) hx
    exact EvC.ex (t5_trace1 hC hj) ⟨by unfold trR; rw [if_pos hx, nI_clamp (by omega)], PM.same hC hS hH⟩
  · rw [Bool.not_eq_true] at hx
    exact EvC.ex (t5_trace0 hC hx) ⟨by unfold trR; rw [if_neg (by rw [hx]; decide)], PM.same hC hS hH⟩

set_option maxRecDepth 100000 in
set_option maxHeartbeats 4000000 in
theorem t5_about0 (hC : CW m o F YL AN kf vf n s nf) {t : Int32} (w : Int32) (hx : tIn kf t = false) : Ev G 2 uX5_about [.ref F, .int t, .int w] m (some (.int (-1))) m := by
  refine Ev.of (by decide +kernel) (Nat.le_of_ble_eq_true rfl) ?_
  have hq := hC.2.2.2.1.q
  refine e_lvs (lv' := [(0, .ref F), (1, .int t), (2, .int w)]) rfl ?_
  refine e_aload_n 0 dX5_about_0 rfl ?_
  refine e_getP (some (YL.1 0)) dX5_about_1 fl_X5_12 rfl hC.1.1 hC.2.1.1 ?_
  refine e_iload_n 1 dX5_about_4 rfl ?_
  refine e_callV (ci := 0) (st := []) (st1 := [.null]) (As := [.int t]) (k_taskAtN (G := G) hq hx) dX5_about_5 (by decide) cm_X0_taskAt lk_X5_112 im_X0_taskAt rfl sel_X0_taskAt (hq.T 0 (by decide)) rfl rfl (Nat.le_of_ble_eq_true rfl) rfl ?_
  refine e_astore_nN (lv' := [(3, .null), (0, .ref F), (1, .int t), (2, .int w)]) dX5_about_8 (by decide) rfl ?_
  refine e_aload_nN 0 dX5_about_9 rfl ?_
  refine e_ifnonnullN dX5_about_10 ?_
  refine e_ic ((-1)) dX5_about_13 (by decide) ?_
  refine e_goto 22 dX5_about_14 (by decide) ?_
  exact e_retI dX5_about_22 rfl rfl rfl

set_option maxRecDepth 100000 in
set_option maxHeartbeats 4000000 in
theorem t5_about1 (hC : CW m o F YL AN kf vf n s nf) {j : Nat} (hj : j < n) (w : Int32) : Ev G 2 uX5_about [.ref F, .int (nI j), .int w] m (some (.int (abR kf (nI j) w))) m := by
  refine Ev.of (by decide +kernel) (Nat.le_of_ble_eq_true rfl) ?_
  have hq := hC.2.2.2.1.q
  have hn2 := hq.n2
  refine e_lvs (lv' := [(0, .ref F), (1, .int (nI j)), (2, .int w)]) rfl ?_
  refine e_aload_n 0 dX5_about_0 rfl ?_
  refine e_getP (some (YL.1 0)) dX5_about_1 fl_X5_12 rfl hC.1.1 hC.2.1.1 ?_
  refine e_iload_n 1 dX5_about_4 rfl ?_
  refine e_callV (ci := 0) (st := []) (st1 := [.ref (YL.1 (9 + j))]) (As := [.int (nI j)]) (k_taskAt (G := G) hq hj) dX5_about_5 (by decide) cm_X0_taskAt lk_X5_112 im_X0_taskAt rfl sel_X0_taskAt (hq.T 0 (by decide)) rfl rfl (Nat.le_of_ble_eq_true rfl) rfl ?_
  refine e_astore_n (lv' := [(3, .ref (YL.1 (9 + j))), (0, .ref F), (1, .int (nI j)), (2, .int w)]) dX5_about_8 (by decide) rfl ?_
  refine e_aload_n 0 dX5_about_9 rfl ?_
  refine e_ifnonnull 17 dX5_about_10 (by decide) ?_
  refine e_aload_n 0 dX5_about_17 rfl ?_
  refine e_iload_n 3 dX5_about_18 rfl ?_
  refine e_callV (ci := 4) (st := []) (st1 := [.int (abR kf (nI j) w)]) (As := [.int w]) (k_tell (G := G) hq hj w) dX5_about_19 (by decide) cm_X4_tell lk_X5_115 im_X4_tell rfl sel_X4_tell (hq.Tt (by omega)) rfl rfl (Nat.le_of_ble_eq_true rfl) rfl ?_
  exact e_retI dX5_about_22 rfl rfl rfl

theorem k5_about (hC : CW m o F YL AN kf vf n s nf) (hS : SN kf vf n s) (hH : HI nf s kf vf n) (t w : Int32) : EvC G 2 uX5_about [.ref F, .int t, .int w] m (fun r mm => r = some (.int (abR kf t w)) ∧ PM m o F YL AN mm kf vf (gI m 105 F)) := by
  have hq := hC.2.2.2.1.q
  have hn2 := hq.n2
  have h6 := hC.2.2.2.2.2
  have hs := hC.2.2.2.2.1.2.2.2.2.1
  by_cases hx : tIn kf t = true
  · obtain ⟨j, hj, rfl⟩ := tIn_n hq.n1 hn2 hx
    have ej : (nI j).toNatClampNeg = j := nI_clamp (by omega)
    exact EvC.ex (t5_about1 hC hj w) ⟨rfl, PM.same hC hS hH⟩
  · rw [Bool.not_eq_true] at hx
    exact EvC.ex (t5_about0 hC w hx) ⟨by unfold abR; rw [hx, if_neg (by simp)], PM.same hC hS hH⟩

set_option maxRecDepth 100000 in
set_option maxHeartbeats 4000000 in
theorem t5_virtual0 (hC : CW m o F YL AN kf vf n s nf) {t : Int32} (hx : tIn kf t = false) : Ev G 1 uX5_virtual [.ref F, .int t] m (some (.long (-1))) m := by
  refine Ev.of (by decide +kernel) (Nat.le_of_ble_eq_true rfl) ?_
  have hq := hC.2.2.2.1.q
  refine e_lvs (lv' := [(0, .ref F), (1, .int t)]) rfl ?_
  refine e_aload_n 0 dX5_virtual_0 rfl ?_
  refine e_getP (some (YL.1 0)) dX5_virtual_1 fl_X5_12 rfl hC.1.1 hC.2.1.1 ?_
  refine e_iload_n 1 dX5_virtual_4 rfl ?_
  refine e_callV (ci := 0) (st := []) (st1 := [.null]) (As := [.int t]) (k_taskAtN (G := G) hq hx) dX5_virtual_5 (by decide) cm_X0_taskAt lk_X5_112 im_X0_taskAt rfl sel_X0_taskAt (hq.T 0 (by decide)) rfl rfl (Nat.le_of_ble_eq_true rfl) rfl ?_
  refine e_astore_nN (lv' := [(2, .null), (0, .ref F), (1, .int t)]) dX5_virtual_8 (by decide) rfl ?_
  refine e_aload_nN 0 dX5_virtual_9 rfl ?_
  refine e_ifnonnullN dX5_virtual_10 ?_
  refine e_ldc2 dX5_virtual_13 cs_X5_118 ?_
  refine e_goto 23 dX5_virtual_16 (by decide) ?_
  exact e_retL dX5_virtual_23 rfl rfl

set_option maxRecDepth 100000 in
set_option maxHeartbeats 4000000 in
theorem t5_virtual1 (hC : CW m o F YL AN kf vf n s nf) {j : Nat} (hj : j < n) : Ev G 1 uX5_virtual [.ref F, .int (nI j)] m (some (.long (vf j))) m := by
  refine Ev.of (by decide +kernel) (Nat.le_of_ble_eq_true rfl) ?_
  have hq := hC.2.2.2.1.q
  have hn2 := hq.n2
  refine e_lvs (lv' := [(0, .ref F), (1, .int (nI j))]) rfl ?_
  refine e_aload_n 0 dX5_virtual_0 rfl ?_
  refine e_getP (some (YL.1 0)) dX5_virtual_1 fl_X5_12 rfl hC.1.1 hC.2.1.1 ?_
  refine e_iload_n 1 dX5_virtual_4 rfl ?_
  refine e_callV (ci := 0) (st := []) (st1 := [.ref (YL.1 (9 + j))]) (As := [.int (nI j)]) (k_taskAt (G := G) hq hj) dX5_virtual_5 (by decide) cm_X0_taskAt lk_X5_112 im_X0_taskAt rfl sel_X0_taskAt (hq.T 0 (by decide)) rfl rfl (Nat.le_of_ble_eq_true rfl) rfl ?_
  refine e_astore_n (lv' := [(2, .ref (YL.1 (9 + j))), (0, .ref F), (1, .int (nI j))]) dX5_virtual_8 (by decide) rfl ?_
  refine e_aload_n 0 dX5_virtual_9 rfl ?_
  refine e_ifnonnull 19 dX5_virtual_10 (by decide) ?_
  refine e_aload_n 0 dX5_virtual_19 rfl ?_
  refine e_getLv (vf j) dX5_virtual_20 fl_X5_120 rfl (hq.Tt (by omega)) (hq.gv (by omega)) ?_
  exact e_retL dX5_virtual_23 rfl rfl

theorem k5_virtual (hC : CW m o F YL AN kf vf n s nf) (hS : SN kf vf n s) (hH : HI nf s kf vf n) (t : Int32) : EvC G 1 uX5_virtual [.ref F, .int t] m (fun r mm => r = some (.long (virR kf vf t)) ∧ PM m o F YL AN mm kf vf (gI m 105 F)) := by
  have hq := hC.2.2.2.1.q
  have hn2 := hq.n2
  have h6 := hC.2.2.2.2.2
  have hs := hC.2.2.2.2.1.2.2.2.2.1
  by_cases hx : tIn kf t = true
  · obtain ⟨j, hj, rfl⟩ := tIn_n hq.n1 hn2 hx
    have ej : (nI j).toNatClampNeg = j := nI_clamp (by omega)
    exact EvC.ex (t5_virtual1 hC hj) ⟨by unfold virR; rw [if_pos hx, ej], PM.same hC hS hH⟩
  · rw [Bool.not_eq_true] at hx
    exact EvC.ex (t5_virtual0 hC hx) ⟨by unfold virR; rw [if_neg (by rw [hx]; decide)], PM.same hC hS hH⟩

set_option maxRecDepth 100000 in
set_option maxHeartbeats 4000000 in
theorem t5_small0 (hC : CW m o F YL AN kf vf n s nf) {t : Int32} (w : Int32) (hx : tIn kf t = false) : Ev G 2 uX5_small [.ref F, .int t, .int w] m (some (.int (nI 0))) m := by
  refine Ev.of (by decide +kernel) (Nat.le_of_ble_eq_true rfl) ?_
  have hq := hC.2.2.2.1.q
  refine e_lvs (lv' := [(0, .ref F), (1, .int t), (2, .int w)]) rfl ?_
  refine e_aload_n 0 dX5_small_0 rfl ?_
  refine e_getP (some (YL.1 0)) dX5_small_1 fl_X5_12 rfl hC.1.1 hC.2.1.1 ?_
  refine e_iload_n 1 dX5_small_4 rfl ?_
  refine e_callV (ci := 0) (st := []) (st1 := [.null]) (As := [.int t]) (k_taskAtN (G := G) hq hx) dX5_small_5 (by decide) cm_X0_taskAt lk_X5_112 im_X0_taskAt rfl sel_X0_taskAt (hq.T 0 (by decide)) rfl rfl (Nat.le_of_ble_eq_true rfl) rfl ?_
  refine e_astore_nN (lv' := [(3, .null), (0, .ref F), (1, .int t), (2, .int w)]) dX5_small_8 (by decide) rfl ?_
  refine e_aload_nN 0 dX5_small_9 rfl ?_
  refine e_ifnonnullN dX5_small_10 ?_
  refine e_ic (nI 0) dX5_small_13 (by decide) ?_
  refine e_goto 22 dX5_small_14 (by decide) ?_
  exact e_retI dX5_small_22 rfl rfl rfl

set_option maxRecDepth 100000 in
set_option maxHeartbeats 4000000 in
theorem t5_small1 (hC : CW m o F YL AN kf vf n s nf) (hS : SN kf vf n s) (hH : HI nf s kf vf n) {j : Nat} (hj : j < n) (w : Int32) : Ev G 2 uX5_small [.ref F, .int (nI j), .int w] m (some (.int (smV kf j w))) m := by
  refine Ev.of (by decide +kernel) (Nat.le_of_ble_eq_true rfl) ?_
  have hq := hC.2.2.2.1.q
  have hn2 := hq.n2
  refine e_lvs (lv' := [(0, .ref F), (1, .int (nI j)), (2, .int w)]) rfl ?_
  refine e_aload_n 0 dX5_small_0 rfl ?_
  refine e_getP (some (YL.1 0)) dX5_small_1 fl_X5_12 rfl hC.1.1 hC.2.1.1 ?_
  refine e_iload_n 1 dX5_small_4 rfl ?_
  refine e_callV (ci := 0) (st := []) (st1 := [.ref (YL.1 (9 + j))]) (As := [.int (nI j)]) (k_taskAt (G := G) hq hj) dX5_small_5 (by decide) cm_X0_taskAt lk_X5_112 im_X0_taskAt rfl sel_X0_taskAt (hq.T 0 (by decide)) rfl rfl (Nat.le_of_ble_eq_true rfl) rfl ?_
  refine e_astore_n (lv' := [(3, .ref (YL.1 (9 + j))), (0, .ref F), (1, .int (nI j)), (2, .int w)]) dX5_small_8 (by decide) rfl ?_
  refine e_aload_n 0 dX5_small_9 rfl ?_
  refine e_ifnonnull 17 dX5_small_10 (by decide) ?_
  refine e_aload_n 0 dX5_small_17 rfl ?_
  refine e_iload_n 3 dX5_small_18 rfl ?_
  refine e_callV (ci := 4) (st := []) (st1 := [.int (smV kf j w)]) (As := [.int w]) (k_shortAt (G := G) hq hj (hS.1.hm j hj) w) dX5_small_19 (by decide) cm_X4_shortAt lk_X5_124 im_X4_shortAt rfl sel_X4_shortAt (hq.Tt (by omega)) rfl rfl (Nat.le_of_ble_eq_true rfl) rfl ?_
  exact e_retI dX5_small_22 rfl rfl rfl

theorem k5_small (hC : CW m o F YL AN kf vf n s nf) (hS : SN kf vf n s) (hH : HI nf s kf vf n) (t w : Int32) : EvC G 2 uX5_small [.ref F, .int t, .int w] m (fun r mm => r = some (.int (smR kf t w)) ∧ PM m o F YL AN mm kf vf (gI m 105 F)) := by
  have hq := hC.2.2.2.1.q
  have hn2 := hq.n2
  have h6 := hC.2.2.2.2.2
  have hs := hC.2.2.2.2.1.2.2.2.2.1
  by_cases hx : tIn kf t = true
  · obtain ⟨j, hj, rfl⟩ := tIn_n hq.n1 hn2 hx
    have ej : (nI j).toNatClampNeg = j := nI_clamp (by omega)
    exact EvC.ex (t5_small1 hC hS hH hj w) ⟨by unfold smR smV; rw [hx, ej, Bool.true_and], PM.same hC hS hH⟩
  · rw [Bool.not_eq_true] at hx
    exact EvC.ex (t5_small0 hC w hx) ⟨by unfold smR; rw [hx, Bool.false_and, if_neg (by decide)], PM.same hC hS hH⟩

set_option maxRecDepth 100000 in
set_option maxHeartbeats 4000000 in
theorem t5_holder0 (hC : CW m o F YL AN kf vf n s nf) {x : Int32} (hx : inI x (nI 0) (nI 99) = false) : Ev G 1 uX5_holder [.ref F, .int x] m (some (.int (-2))) m := by
  refine Ev.of (by decide +kernel) (Nat.le_of_ble_eq_true rfl) ?_
  have hq := hC.2.2.2.1.q
  refine e_lvs (lv' := [(0, .ref F), (1, .int x)]) rfl ?_
  refine e_aload_n 0 dX5_holder_0 rfl ?_
  refine e_getP (some (YL.1 0)) dX5_holder_1 fl_X5_12 rfl hC.1.1 hC.2.1.1 ?_
  refine e_iload_n 1 dX5_holder_4 rfl ?_
  refine e_callV (ci := 0) (st := []) (st1 := [.int (-2)]) (As := [.int x]) (k_holderOfN (G := G) hq hx) dX5_holder_5 (by decide) cm_X0_holderOf lk_X5_95 im_X0_holderOf rfl sel_X0_holderOf (hq.T 0 (by decide)) rfl rfl (Nat.le_of_ble_eq_true rfl) rfl ?_
  exact e_retI dX5_holder_8 rfl rfl rfl

set_option maxRecDepth 100000 in
set_option maxHeartbeats 4000000 in
theorem t5_holder1 (hC : CW m o F YL AN kf vf n s nf) {j : Nat} (hj : j ≤ 99) : Ev G 1 uX5_holder [.ref F, .int (nI j)] m (some (.int (kf (240 + j)))) m := by
  refine Ev.of (by decide +kernel) (Nat.le_of_ble_eq_true rfl) ?_
  have hq := hC.2.2.2.1.q
  refine e_lvs (lv' := [(0, .ref F), (1, .int (nI j))]) rfl ?_
  refine e_aload_n 0 dX5_holder_0 rfl ?_
  refine e_getP (some (YL.1 0)) dX5_holder_1 fl_X5_12 rfl hC.1.1 hC.2.1.1 ?_
  refine e_iload_n 1 dX5_holder_4 rfl ?_
  refine e_callV (ci := 0) (st := []) (st1 := [.int (kf (240 + j))]) (As := [.int (nI j)]) (k_holderOf (G := G) hq (j := j) (by omega)) dX5_holder_5 (by decide) cm_X0_holderOf lk_X5_95 im_X0_holderOf rfl sel_X0_holderOf (hq.T 0 (by decide)) rfl rfl (Nat.le_of_ble_eq_true rfl) rfl ?_
  exact e_retI dX5_holder_8 rfl rfl rfl

theorem k5_holder (hC : CW m o F YL AN kf vf n s nf) (hS : SN kf vf n s) (hH : HI nf s kf vf n) (x : Int32) : EvC G 1 uX5_holder [.ref F, .int x] m (fun r mm => r = some (.int (hoR kf x)) ∧ PM m o F YL AN mm kf vf (gI m 105 F)) := by
  have hq := hC.2.2.2.1.q
  have hn2 := hq.n2
  have h6 := hC.2.2.2.2.2
  have hs := hC.2.2.2.2.1.2.2.2.2.1
  by_cases hx : inI x (nI 0) (nI 99) = true
  · obtain ⟨j, -, hj, rfl⟩ := inI_n (by decide) (by decide) hx
    exact EvC.ex (t5_holder1 hC hj) ⟨by unfold hoR; rw [if_pos hx, nI_clamp (by omega)], PM.same hC hS hH⟩
  · rw [Bool.not_eq_true] at hx
    exact EvC.ex (t5_holder0 hC hx) ⟨by unfold hoR; rw [if_neg (by rw [hx]; decide)], PM.same hC hS hH⟩

set_option maxRecDepth 100000 in
set_option maxHeartbeats 4000000 in
theorem t5_ringed0 (hC : CW m o F YL AN kf vf n s nf) {x : Int32} {c : Nat} (h5 : kf 5 = nI c) (hc : c ≤ 200) (hx : inI x (nI 0) (kf 5 - nI 1) = false) : Ev G 0 uX5_ringed [.ref F, .int x] m (some (.int (-1))) m := by
  refine Ev.of (by decide +kernel) (Nat.le_of_ble_eq_true rfl) ?_
  have hq := hC.2.2.2.1.q
  refine e_lvs (lv' := [(0, .ref F), (1, .int x)]) rfl ?_
  refine e_iload_n 1 dX5_ringed_0 rfl ?_
  refine e_if_lt 27 dX5_ringed_1 (by decide) (fun h1 => ?_) (fun h1 => ?_)
  · skip
    have h1' := Int32.not_le.mpr h1
    refine e_ic ((-1)) dX5_ringed_27 (by decide) ?_
    exact e_retI dX5_ringed_28 rfl rfl rfl
  · skip
    have h1' := Int32.not_lt.mp h1
    obtain ⟨j1, hj1, rfl⟩ := nI_of h1
    refine e_iload_n 1 dX5_ringed_4 rfl ?_
    refine e_aload_n 0 dX5_ringed_5 rfl ?_
    refine e_getP (some (YL.1 0)) dX5_ringed_6 fl_X5_12 rfl hC.1.1 hC.2.1.1 ?_
    refine e_getIv (kf 5) dX5_ringed_9 fl_X5_144 rfl (hq.T 0 (by decide)) hq.2.1.1.2.2.2.2.2 (e_iv (w := nI c) (h5) ?_)
    refine e_icmp_geN 27 dX5_ringed_12 (by decide) (by omega) (by omega) (fun q => ?_) (fun q => ?_)
    · skip
      have q' := Nat.not_lt.mpr q
      refine e_ic ((-1)) dX5_ringed_27 (by decide) ?_
      exact e_retI dX5_ringed_28 rfl rfl rfl
    · skip
      have q' := Nat.not_le.mpr q
      exact absurd (show inI (nI j1) (nI 0) (kf 5 - nI 1) = true from by rw [h5, pk_sub (by omega)]; exact inI_of (by omega) (by omega) (by omega)) (by rw [hx]; decide)

set_option maxRecDepth 100000 in
set_option maxHeartbeats 4000000 in
theorem t5_ringed1 (hC : CW m o F YL AN kf vf n s nf) {j c : Nat} (h5 : kf 5 = nI c) (hc : c ≤ 200) (hj : j < c) : Ev G 0 uX5_ringed [.ref F, .int (nI j)] m (some (.int (kf (16 + j)))) m := by
  refine Ev.of (by decide +kernel) (Nat.le_of_ble_eq_true rfl) ?_
  have hq := hC.2.2.2.1.q
  refine e_lvs (lv' := [(0, .ref F), (1, .int (nI j))]) rfl ?_
  refine e_iload_n 1 dX5_ringed_0 rfl ?_
  refine e_if_lt 27 dX5_ringed_1 (by decide) (fun h => absurd h (nI_pos (by omega))) (fun _ => ?_)
  refine e_iload_n 1 dX5_ringed_4 rfl ?_
  refine e_aload_n 0 dX5_ringed_5 rfl ?_
  refine e_getP (some (YL.1 0)) dX5_ringed_6 fl_X5_12 rfl hC.1.1 hC.2.1.1 ?_
  refine e_getIv (kf 5) dX5_ringed_9 fl_X5_144 rfl (hq.T 0 (by decide)) hq.2.1.1.2.2.2.2.2 (e_iv (w := nI c) (h5) ?_)
  refine e_icmp_geN 27 dX5_ringed_12 (by decide) (by omega) (by omega) (fun h => absurd h (by omega)) (fun _ => ?_)
  refine e_aload_n 0 dX5_ringed_15 rfl ?_
  refine e_getP (some (YL.1 0)) dX5_ringed_16 fl_X5_12 rfl hC.1.1 hC.2.1.1 ?_
  refine e_getP (some (YL.1 7)) dX5_ringed_19 fl_X5_147 rfl (hq.T 0 (by decide)) (hq.1.2.2.1.2.2.2.2.2.1) ?_
  refine e_iload_n 1 dX5_ringed_22 rfl ?_
  refine e_ialdN (kf (16 + j)) dX5_ringed_23 (hq.T 7 (by decide)) (by rw [hq.1.2.1.2.2.2.2.1]; omega) (by rw [hq.1.2.1.2.2.2.2.1]; decide) (hq.2.1.2.1.2.1 j (by omega) (by rw [h5]; exact (nI_ltI (by omega) (by omega)).mpr hj)) ?_
  refine e_goto 28 dX5_ringed_24 (by decide) ?_
  exact e_retI dX5_ringed_28 rfl rfl rfl

theorem k5_ringed (hC : CW m o F YL AN kf vf n s nf) (hS : SN kf vf n s) (hH : HI nf s kf vf n) (x : Int32) : EvC G 0 uX5_ringed [.ref F, .int x] m (fun r mm => r = some (.int (rgdR kf x)) ∧ PM m o F YL AN mm kf vf (gI m 105 F)) := by
  have hq := hC.2.2.2.1.q
  have hn2 := hq.n2
  have h6 := hC.2.2.2.2.2
  have hs := hC.2.2.2.2.1.2.2.2.2.1
  obtain ⟨hW, z, h0, hz, hG⟩ := id hS
  obtain ⟨c, hc, h5⟩ := hG.2.2.1
  by_cases hx : inI x (nI 0) (kf 5 - nI 1) = true
  · obtain ⟨j, hj, rfl⟩ := inc_n h5 (by omega) hx
    exact EvC.ex (t5_ringed1 hC h5 hc hj) ⟨by unfold rgdR; rw [if_pos hx, nI_clamp (by omega)], PM.same hC hS hH⟩
  · rw [Bool.not_eq_true] at hx
    exact EvC.ex (t5_ringed0 hC h5 hc hx) ⟨by unfold rgdR; rw [if_neg (by rw [hx]; decide)], PM.same hC hS hH⟩

set_option maxRecDepth 100000 in
set_option maxHeartbeats 4000000 in
theorem t5_row0 (hC : CW m o F YL AN kf vf n s nf) {c : Nat} (h3 : kf 3 = nI c) (hc : c ≤ 8000) (x w : Int32) (hx : rowB kf x w = false) : Ev G 2 uX5_row [.ref F, .int x, .int w] m (some (.int (-1))) m := by
  refine Ev.of (by decide +kernel) (Nat.le_of_ble_eq_true rfl) ?_
  have hq := hC.2.2.2.1.q
  refine e_lvs (lv' := [(0, .ref F), (1, .int x), (2, .int w)]) rfl ?_
  refine e_aload_n 0 dX5_row_0 rfl ?_
  refine e_getP (some (YL.1 0)) dX5_row_1 fl_X5_12 rfl hC.1.1 hC.2.1.1 ?_
  refine e_getP (some (YL.1 3)) dX5_row_4 fl_X5_150 rfl (hq.T 0 (by decide)) (hq.1.2.2.1.2.2.1) ?_
  refine e_iload_n 1 dX5_row_7 rfl ?_
  refine e_iload_n 2 dX5_row_8 rfl ?_
  refine e_callV (ci := 3) (st := []) (st1 := [.int (bI (rowB kf x w))]) (As := [.int x, .int w]) (k_has (G := G) hq h3 hc x w) dX5_row_9 (by decide) cm_X3_has lk_X5_154 im_X3_has rfl sel_X3_has (hq.T 3 (by decide)) rfl rfl (Nat.le_of_ble_eq_true rfl) rfl ?_
  refine e_if_eqB 30 dX5_row_12 (by decide) (fun _ => ?_) (fun h => absurd h (by rw [hx]; decide))
  refine e_ic ((-1)) dX5_row_30 (by decide) ?_
  exact e_retI dX5_row_31 rfl rfl rfl

set_option maxRecDepth 100000 in
set_option maxHeartbeats 4000000 in
theorem t5_row1 (hC : CW m o F YL AN kf vf n s nf) {c : Nat} (h3 : kf 3 = nI c) (hc : c ≤ 8000) (x w : Int32) (hx : rowB kf x w = true) : Ev G 2 uX5_row [.ref F, .int x, .int w] m (some (.int (rwR kf 62000 x w))) m := by
  refine Ev.of (by decide +kernel) (Nat.le_of_ble_eq_true rfl) ?_
  have hq := hC.2.2.2.1.q
  refine e_lvs (lv' := [(0, .ref F), (1, .int x), (2, .int w)]) rfl ?_
  refine e_aload_n 0 dX5_row_0 rfl ?_
  refine e_getP (some (YL.1 0)) dX5_row_1 fl_X5_12 rfl hC.1.1 hC.2.1.1 ?_
  refine e_getP (some (YL.1 3)) dX5_row_4 fl_X5_150 rfl (hq.T 0 (by decide)) (hq.1.2.2.1.2.2.1) ?_
  refine e_iload_n 1 dX5_row_7 rfl ?_
  refine e_iload_n 2 dX5_row_8 rfl ?_
  refine e_callV (ci := 3) (st := []) (st1 := [.int (bI (rowB kf x w))]) (As := [.int x, .int w]) (k_has (G := G) hq h3 hc x w) dX5_row_9 (by decide) cm_X3_has lk_X5_154 im_X3_has rfl sel_X3_has (hq.T 3 (by decide)) rfl rfl (Nat.le_of_ble_eq_true rfl) rfl ?_
  refine e_if_eqB 30 dX5_row_12 (by decide) (fun h => absurd h (by rw [hx]; decide)) (fun _ => ?_)
  refine e_aload_n 0 dX5_row_15 rfl ?_
  refine e_getP (some (YL.1 0)) dX5_row_16 fl_X5_12 rfl hC.1.1 hC.2.1.1 ?_
  refine e_getP (some (YL.1 3)) dX5_row_19 fl_X5_150 rfl (hq.T 0 (by decide)) (hq.1.2.2.1.2.2.1) ?_
  refine e_iload_n 1 dX5_row_22 rfl ?_
  refine e_iload_n 2 dX5_row_23 rfl ?_
  refine e_callV (ci := 3) (st := []) (st1 := [.int (rwR kf 62000 x w)]) (As := [.int x, .int w]) (k_get (G := G) hq h3 hc x w) dX5_row_24 (by decide) cm_X3_get lk_X5_160 im_X3_get rfl sel_X3_get (hq.T 3 (by decide)) rfl rfl (Nat.le_of_ble_eq_true rfl) rfl ?_
  refine e_goto 31 dX5_row_27 (by decide) ?_
  exact e_retI dX5_row_31 rfl rfl rfl

theorem k5_row (hC : CW m o F YL AN kf vf n s nf) (hS : SN kf vf n s) (hH : HI nf s kf vf n) (x w : Int32) : EvC G 2 uX5_row [.ref F, .int x, .int w] m (fun r mm => r = some (.int (rowR kf x w)) ∧ PM m o F YL AN mm kf vf (gI m 105 F)) := by
  have hq := hC.2.2.2.1.q
  have hn2 := hq.n2
  have h6 := hC.2.2.2.2.2
  have hs := hC.2.2.2.2.1.2.2.2.2.1
  obtain ⟨c, hc, h3⟩ := hS.1.2.2.2.2.2.2.2.1
  by_cases hx : rowB kf x w = true
  · exact EvC.ex (t5_row1 hC h3 hc x w hx) ⟨rfl, PM.same hC hS hH⟩
  · rw [Bool.not_eq_true] at hx
    exact EvC.ex (t5_row0 hC h3 hc x w hx) ⟨by unfold rowR; rw [if_neg (by rw [hx]; decide)], PM.same hC hS hH⟩

set_option maxRecDepth 100000 in
set_option maxHeartbeats 4000000 in
theorem t5_status (hC : CW m o F YL AN kf vf n s nf) : Ev G 0 uX5_status [.ref F] m (some (.int (gI m 105 F))) m := by
  refine Ev.of (by decide +kernel) (Nat.le_of_ble_eq_true rfl) ?_
  refine e_lvs (lv' := [(0, .ref F)]) rfl ?_
  refine e_aload_n 0 dX5_status_0 rfl ?_
  refine e_getIv (gI m 105 F) dX5_status_1 fl_X5_32 rfl hC.1.1 rfl ?_
  exact e_retI dX5_status_4 rfl rfl rfl

set_option maxRecDepth 100000 in
set_option maxHeartbeats 4000000 in
theorem t5_checkedTo (hC : CW m o F YL AN kf vf n s nf) : Ev G 0 uX5_checkedTo [.ref F] m (some (.int (gI m 106 F))) m := by
  refine Ev.of (by decide +kernel) (Nat.le_of_ble_eq_true rfl) ?_
  refine e_lvs (lv' := [(0, .ref F)]) rfl ?_
  refine e_aload_n 0 dX5_checkedTo_0 rfl ?_
  refine e_getIv (gI m 106 F) dX5_checkedTo_1 fl_X5_36 rfl hC.1.1 rfl ?_
  exact e_retI dX5_checkedTo_4 rfl rfl rfl

theorem k5_status (hC : CW m o F YL AN kf vf n s nf) (hS : SN kf vf n s) (hH : HI nf s kf vf n)  : EvC G 0 uX5_status [.ref F] m (fun r mm => r = some (.int (gI m 105 F)) ∧ PM m o F YL AN mm kf vf (gI m 105 F)) := by
  have hq := hC.2.2.2.1.q
  have hn2 := hq.n2
  have h6 := hC.2.2.2.2.2
  have hs := hC.2.2.2.2.1.2.2.2.2.1
  exact EvC.ex (t5_status hC) ⟨rfl, PM.same hC hS hH⟩

theorem k5_checkedTo (hC : CW m o F YL AN kf vf n s nf) (hS : SN kf vf n s) (hH : HI nf s kf vf n)  : EvC G 0 uX5_checkedTo [.ref F] m (fun r mm => r = some (.int (gI m 106 F)) ∧ PM m o F YL AN mm kf vf (gI m 105 F)) := by
  have hq := hC.2.2.2.1.q
  have hn2 := hq.n2
  have h6 := hC.2.2.2.2.2
  have hs := hC.2.2.2.2.1.2.2.2.2.1
  exact EvC.ex (t5_checkedTo hC) ⟨rfl, PM.same hC hS hH⟩

set_option maxRecDepth 100000 in
set_option maxHeartbeats 4000000 in
theorem t5_digest (hC : CW m o F YL AN kf vf n s nf) (hS : SN kf vf n s) (hH : HI nf s kf vf n) : Ev G 3 uX5_digest [.ref F] m (some (.long (dgF kf vf))) m := by
  refine Ev.of (by decide +kernel) (Nat.le_of_ble_eq_true rfl) ?_
  have hq := hC.2.2.2.1.q
  refine e_lvs (lv' := [(0, .ref F)]) rfl ?_
  refine e_aload_n 0 dX5_digest_0 rfl ?_
  refine e_getP (some (YL.1 0)) dX5_digest_1 fl_X5_12 rfl hC.1.1 hC.2.1.1 ?_
  refine e_callV (ci := 0) (st := []) (st1 := [.long (dgF kf vf)]) (As := []) (k_summed (G := G) hq hS.1) dX5_digest_4 (by decide) cm_X0_summed lk_X5_208 im_X0_summed rfl sel_X0_summed (hq.T 0 (by decide)) rfl rfl (Nat.le_of_ble_eq_true rfl) rfl ?_
  exact e_retL dX5_digest_7 rfl rfl

theorem k5_digest (hC : CW m o F YL AN kf vf n s nf) (hS : SN kf vf n s) (hH : HI nf s kf vf n)  : EvC G 3 uX5_digest [.ref F] m (fun r mm => r = some (.long (dgF kf vf)) ∧ PM m o F YL AN mm kf vf (gI m 105 F)) := by
  have hq := hC.2.2.2.1.q
  have hn2 := hq.n2
  have h6 := hC.2.2.2.2.2
  have hs := hC.2.2.2.2.1.2.2.2.2.1
  exact EvC.ex (t5_digest hC hS hH) ⟨rfl, PM.same hC hS hH⟩

theorem cn_out {kf : KF} {x : Int32} (h : x.toInt < ((0 : Nat) : Int) ∨ ((7 : Nat) : Int) < x.toInt) : cnR kf x = -1 := by
  have q : ∀ j : Nat, j ≤ 7 → ¬ x = nI j := fun j hj e => by
    rw [e, nI_toInt (by omega)] at h
    omega
  unfold cnR
  rw [if_neg (show ¬ x = 0 from q 0 (by omega)), if_neg (show ¬ x = 1 from q 1 (by omega)), if_neg (show ¬ x = 2 from q 2 (by omega)), if_neg (show ¬ x = 3 from q 3 (by omega)), if_neg (show ¬ x = 4 from q 4 (by omega)), if_neg (show ¬ x = 5 from q 5 (by omega)), if_neg (show ¬ x = 6 from q 6 (by omega)), if_neg (show ¬ x = 7 from q 7 (by omega))]

set_option maxRecDepth 100000 in
set_option maxHeartbeats 4000000 in
theorem t5_count (hC : CW m o F YL AN kf vf n s nf) (x : Int32) : Ev G 1 uX5_count [.ref F, .int x] m (some (.int (cnR kf x))) m := by
  refine Ev.of (by decide +kernel) (Nat.le_of_ble_eq_true rfl) ?_
  have hq := hC.2.2.2.1.q
  have hn2 := hq.n2
  have nt : nT kf = n := nT_of hq.n1 hn2
  refine e_lvs (lv' := [(0, .ref F), (1, .int x)]) rfl ?_
  refine e_iload_n 1 dX5_count_0 rfl ?_
  by_cases hsw : inI x (nI 0) (nI 7) = true
  · skip
    obtain ⟨jsw, hsw1, hsw2, rfl⟩ := inI_n (by decide) (by decide) hsw
    rcases (show jsw = 0 ∨ jsw = 1 ∨ jsw = 2 ∨ jsw = 3 ∨ jsw = 4 ∨ jsw = 5 ∨ jsw = 6 ∨ jsw = 7 by omega) with rfl | rfl | rfl | rfl | rfl | rfl | rfl | rfl
    · skip
      refine e_tabIn (off := 47) 48 dX5_count_1 (by decide) (by decide) (by decide) (by decide) ?_
      refine e_aload_n 0 dX5_count_48 rfl ?_
      refine e_getP (some (YL.1 0)) dX5_count_49 fl_X5_12 rfl hC.1.1 hC.2.1.1 ?_
      refine e_getIv (kf 0) dX5_count_52 fl_X5_85 rfl (hq.T 0 (by decide)) hq.2.1.1.1 ?_
      exact e_retI dX5_count_55 rfl rfl (rfl) rfl
    · skip
      refine e_tabIn (off := 55) 56 dX5_count_1 (by decide) (by decide) (by decide) (by decide) ?_
      refine e_aload_n 0 dX5_count_56 rfl ?_
      refine e_getP (some (YL.1 0)) dX5_count_57 fl_X5_12 rfl hC.1.1 hC.2.1.1 ?_
      refine e_getIv (nI n) dX5_count_60 fl_X5_65 rfl (hq.T 0 (by decide)) hq.n7 ?_
      exact e_retI dX5_count_63 rfl rfl (by rw [show cnR kf (nI 1) = kf 1 from rfl, hq.n1]) rfl
    · skip
      refine e_tabIn (off := 63) 64 dX5_count_1 (by decide) (by decide) (by decide) (by decide) ?_
      refine e_aload_n 0 dX5_count_64 rfl ?_
      refine e_getP (some (YL.1 0)) dX5_count_65 fl_X5_12 rfl hC.1.1 hC.2.1.1 ?_
      refine e_getIv (nI n) dX5_count_68 fl_X5_65 rfl (hq.T 0 (by decide)) hq.n7 ?_
      refine e_aload_n 0 dX5_count_71 rfl ?_
      refine e_getP (some (YL.1 0)) dX5_count_72 fl_X5_12 rfl hC.1.1 hC.2.1.1 ?_
      refine e_ic (nI 4) dX5_count_75 (by decide) ?_
      refine e_callV (ci := 0) (st := [.int (nI n)]) (st1 := [.int (hmF kf (nI 4) n), .int (nI n)]) (As := [.int (nI 4)]) (k_howMany (G := G) hq (nI 4)) dX5_count_76 (by decide) cm_X0_howMany lk_X5_191 im_X0_howMany rfl sel_X0_howMany (hq.T 0 (by decide)) rfl rfl (Nat.le_of_ble_eq_true rfl) rfl ?_
      refine e_isub dX5_count_79 ?_
      exact e_retI dX5_count_80 rfl rfl (by rw [show cnR kf (nI 2) = (cnF kf (nT kf)).1 from rfl, nt, hm_living]) rfl
    · skip
      refine e_tabIn (off := 80) 81 dX5_count_1 (by decide) (by decide) (by decide) (by decide) ?_
      refine e_aload_n 0 dX5_count_81 rfl ?_
      refine e_getP (some (YL.1 0)) dX5_count_82 fl_X5_12 rfl hC.1.1 hC.2.1.1 ?_
      refine e_ic (nI 0) dX5_count_85 (by decide) ?_
      refine e_callV (ci := 0) (st := []) (st1 := [.int (hmF kf (nI 0) n)]) (As := [.int (nI 0)]) (k_howMany (G := G) hq (nI 0)) dX5_count_86 (by decide) cm_X0_howMany lk_X5_191 im_X0_howMany rfl sel_X0_howMany (hq.T 0 (by decide)) rfl rfl (Nat.le_of_ble_eq_true rfl) rfl ?_
      exact e_retI dX5_count_89 rfl rfl (by rw [show cnR kf (nI 3) = (cnF kf (nT kf)).2 from rfl, nt, hm_ready]) rfl
    · skip
      refine e_tabIn (off := 89) 90 dX5_count_1 (by decide) (by decide) (by decide) (by decide) ?_
      refine e_aload_n 0 dX5_count_90 rfl ?_
      refine e_getP (some (YL.1 0)) dX5_count_91 fl_X5_12 rfl hC.1.1 hC.2.1.1 ?_
      refine e_getP (some (YL.1 3)) dX5_count_94 fl_X5_150 rfl (hq.T 0 (by decide)) (hq.1.2.2.1.2.2.1) ?_
      refine e_getIv (kf 3) dX5_count_97 fl_X5_194 rfl (hq.T 3 (by decide)) hq.2.1.1.2.2.2.1 ?_
      exact e_retI dX5_count_100 rfl rfl (rfl) rfl
    · skip
      refine e_tabIn (off := 100) 101 dX5_count_1 (by decide) (by decide) (by decide) (by decide) ?_
      refine e_aload_n 0 dX5_count_101 rfl ?_
      refine e_getP (some (YL.1 0)) dX5_count_102 fl_X5_12 rfl hC.1.1 hC.2.1.1 ?_
      refine e_getIv (kf 2) dX5_count_105 fl_X5_195 rfl (hq.T 0 (by decide)) hq.2.1.1.2.2.1 ?_
      exact e_retI dX5_count_108 rfl rfl (rfl) rfl
    · skip
      refine e_tabIn (off := 108) 109 dX5_count_1 (by decide) (by decide) (by decide) (by decide) ?_
      refine e_aload_n 0 dX5_count_109 rfl ?_
      refine e_getP (some (YL.1 0)) dX5_count_110 fl_X5_12 rfl hC.1.1 hC.2.1.1 ?_
      refine e_getIv (kf 4) dX5_count_113 fl_X5_198 rfl (hq.T 0 (by decide)) hq.2.1.1.2.2.2.2.1 ?_
      exact e_retI dX5_count_116 rfl rfl (rfl) rfl
    · skip
      refine e_tabIn (off := 116) 117 dX5_count_1 (by decide) (by decide) (by decide) (by decide) ?_
      refine e_aload_n 0 dX5_count_117 rfl ?_
      refine e_getP (some AN.1) dX5_count_118 fl_X5_19 rfl hC.1.1 hC.2.1.2 ?_
      refine e_getIv (nI s) dX5_count_121 fl_X5_170 rfl hC.2.2.2.2.1.1.1 hC.2.2.2.2.1.2.2.2.1 ?_
      exact e_retI dX5_count_124 rfl rfl (by rw [show cnR kf (nI 7) = kf 6 from rfl, hC.2.2.2.2.2]) rfl
  · skip
    rw [Bool.not_eq_true] at hsw
    refine e_tabOut 125 dX5_count_1 (inI_out (a := 0) (b := 7) (by decide) (by decide) hsw) (by decide) ?_
    refine e_ic ((-1)) dX5_count_125 (by decide) ?_
    exact e_retI dX5_count_126 rfl rfl (by rw [cn_out (inI_out (a := 0) (b := 7) (by decide) (by decide) hsw)])

theorem k5_count (hC : CW m o F YL AN kf vf n s nf) (hS : SN kf vf n s) (hH : HI nf s kf vf n) (x : Int32) : EvC G 1 uX5_count [.ref F, .int x] m (fun r mm => r = some (.int (cnR kf x)) ∧ PM m o F YL AN mm kf vf (gI m 105 F)) := by
  have hq := hC.2.2.2.1.q
  have hn2 := hq.n2
  have h6 := hC.2.2.2.2.2
  have hs := hC.2.2.2.2.1.2.2.2.2.1
  exact EvC.ex (t5_count hC x) ⟨rfl, PM.same hC hS hH⟩

end Class32
