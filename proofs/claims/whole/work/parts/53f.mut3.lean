/-! the class: program, share, deadline -/
section Class31
variable {G : GG} {m : Mem} {o : Nat → Nat} {F : Nat} {YL : YY} {AN : Nat × Nat × Nat} {kf : KF} {vf : VF} {n s : Nat} {nf : Nat → Int64}

set_option maxRecDepth 100000 in
set_option maxHeartbeats 4000000 in
theorem t5_prog1 (hC : CW m o F YL AN kf vf n s nf) {p b : Int32} (ei : Int64) (hx : inI p (nI 0) (nI 31) = false) : Ev G 4 uX5_program [.ref F, .int p, .long ei, .int b] m (some (.int (-1))) (sI m 105 F (nI 1)) := by
  refine Ev.of (by decide +kernel) (Nat.le_of_ble_eq_true rfl) ?_
  have hq := hC.2.2.2.1.q
  refine e_lvs (lv' := [(0, .ref F), (1, .int p), (2, .long ei), (4, .int b)]) rfl ?_
  refine e_aload_n 0 dX5_program_0 rfl ?_
  refine e_getP (some (YL.1 0)) dX5_program_1 fl_X5_12 rfl hC.1.1 hC.2.1.1 ?_
  refine e_iload_n 1 dX5_program_4 rfl ?_
  refine e_callV (ci := 0) (st := []) (st1 := [.null]) (As := [.int p]) (k_programAtN (G := G) hq hx) dX5_program_5 (by decide) cm_X0_programAt lk_X5_39 im_X0_programAt rfl sel_X0_programAt (hq.T 0 (by decide)) rfl rfl (Nat.le_of_ble_eq_true rfl) rfl ?_
  refine e_astoreN (lv' := [(5, .null), (0, .ref F), (1, .int p), (2, .long ei), (4, .int b)]) dX5_program_8 (by decide) rfl ?_
  refine e_aloadN 0 dX5_program_10 rfl ?_
  refine e_ifnullN 27 dX5_program_12 (by decide) ?_
  refine e_aload_n 1 dX5_program_27 rfl ?_
  refine e_ic (nI 1) dX5_program_28 (by decide) ?_
  refine e_callV (ci := 5) (st := []) (st1 := [.int (-1)]) (As := [.int (nI 1)]) (k_refused (G := G) hC.1.1 (nI 1)) dX5_program_29 (by decide) cm_X5_refused lk_X5_43 im_X5_refused rfl sel_X5_refused hC.1.1 rfl rfl (Nat.le_of_ble_eq_true rfl) rfl ?_
  exact e_retI dX5_program_32 rfl rfl rfl

set_option maxRecDepth 100000 in
set_option maxHeartbeats 4000000 in
theorem t5_prog1b (hC : CW m o F YL AN kf vf n s nf) {p1 : Nat} (hp : p1 ≤ 31) {b : Int32} (ei : Int64) (hx : inI b (nI 0) (nI 8) = false) : Ev G 4 uX5_program [.ref F, .int (nI p1), .long ei, .int b] m (some (.int (-1))) (sI m 105 F (nI 1)) := by
  refine Ev.of (by decide +kernel) (Nat.le_of_ble_eq_true rfl) ?_
  have hq := hC.2.2.2.1.q
  refine e_lvs (lv' := [(0, .ref F), (1, .int (nI p1)), (2, .long ei), (4, .int b)]) rfl ?_
  refine e_aload_n 0 dX5_program_0 rfl ?_
  refine e_getP (some (YL.1 0)) dX5_program_1 fl_X5_12 rfl hC.1.1 hC.2.1.1 ?_
  refine e_iload_n 1 dX5_program_4 rfl ?_
  refine e_callV (ci := 0) (st := []) (st1 := [.ref (YL.1 (209 + p1))]) (As := [.int (nI p1)]) (k_programAt (G := G) hq (j := p1) (by omega)) dX5_program_5 (by decide) cm_X0_programAt lk_X5_39 im_X0_programAt rfl sel_X0_programAt (hq.T 0 (by decide)) rfl rfl (Nat.le_of_ble_eq_true rfl) rfl ?_
  refine e_astore (lv' := [(5, .ref (YL.1 (209 + p1))), (0, .ref F), (1, .int (nI p1)), (2, .long ei), (4, .int b)]) dX5_program_8 (by decide) rfl ?_
  refine e_aload 0 dX5_program_10 rfl ?_
  refine e_ifnull dX5_program_12 ?_
  refine e_iload 4 dX5_program_15 rfl ?_
  refine e_if_lt 27 dX5_program_17 (by decide) (fun h1 => ?_) (fun h1 => ?_)
  · skip
    have h1' := Int32.not_le.mpr h1
    refine e_aload_n 1 dX5_program_27 rfl ?_
    refine e_ic (nI 1) dX5_program_28 (by decide) ?_
    refine e_callV (ci := 5) (st := []) (st1 := [.int (-1)]) (As := [.int (nI 1)]) (k_refused (G := G) hC.1.1 (nI 1)) dX5_program_29 (by decide) cm_X5_refused lk_X5_43 im_X5_refused rfl sel_X5_refused hC.1.1 rfl rfl (Nat.le_of_ble_eq_true rfl) rfl ?_
    exact e_retI dX5_program_32 rfl rfl rfl
  · skip
    have h1' := Int32.not_lt.mp h1
    obtain ⟨j1, hj1, rfl⟩ := nI_of h1
    refine e_iload 4 dX5_program_20 rfl ?_
    refine e_bipush (v := nI 8) dX5_program_22 (by decide) ?_
    refine e_icmp_leN 33 dX5_program_24 (by decide) (by omega) (by omega) (fun q24 => ?_) (fun q24 => ?_)
    · skip
      have q24' := Nat.not_lt.mpr q24
      exact absurd (inI_of (j := j1) (a := 0) (b := 8) (by omega) (by omega) (by decide)) (by rw [hx]; decide)
    · skip
      have q24' := Nat.not_le.mpr q24
      refine e_aload_n 1 dX5_program_27 rfl ?_
      refine e_ic (nI 1) dX5_program_28 (by decide) ?_
      refine e_callV (ci := 5) (st := []) (st1 := [.int (-1)]) (As := [.int (nI 1)]) (k_refused (G := G) hC.1.1 (nI 1)) dX5_program_29 (by decide) cm_X5_refused lk_X5_43 im_X5_refused rfl sel_X5_refused hC.1.1 rfl rfl (Nat.le_of_ble_eq_true rfl) rfl ?_
      exact e_retI dX5_program_32 rfl rfl rfl

set_option maxRecDepth 100000 in
set_option maxHeartbeats 4000000 in
theorem t5_prog2 (hC : CW m o F YL AN kf vf n s nf) (hS : SN kf vf n s) (hH : HI nf s kf vf n) {p1 : Nat} (hp : p1 ≤ 31) {b1 : Nat} (hb : b1 ≤ 8) (ei : Int64) (hl : 1000 < plen kf p1 + b1) : Ev G 4 uX5_program [.ref F, .int (nI p1), .long ei, .int (nI b1)] m (some (.int (-1))) (sI m 105 F (nI 2)) := by
  refine Ev.of (by decide +kernel) (Nat.le_of_ble_eq_true rfl) ?_
  have hq := hC.2.2.2.1.q
  have hL := hS.1.2.2.2.2.2.1
  have hpl := plen_le hL (p := p1) (by omega)
  refine e_lvs (lv' := [(0, .ref F), (1, .int (nI p1)), (2, .long ei), (4, .int (nI b1))]) rfl ?_
  refine e_aload_n 0 dX5_program_0 rfl ?_
  refine e_getP (some (YL.1 0)) dX5_program_1 fl_X5_12 rfl hC.1.1 hC.2.1.1 ?_
  refine e_iload_n 1 dX5_program_4 rfl ?_
  refine e_callV (ci := 0) (st := []) (st1 := [.ref (YL.1 (209 + p1))]) (As := [.int (nI p1)]) (k_programAt (G := G) hq (j := p1) (by omega)) dX5_program_5 (by decide) cm_X0_programAt lk_X5_39 im_X0_programAt rfl sel_X0_programAt (hq.T 0 (by decide)) rfl rfl (Nat.le_of_ble_eq_true rfl) rfl ?_
  refine e_astore (lv' := [(5, .ref (YL.1 (209 + p1))), (0, .ref F), (1, .int (nI p1)), (2, .long ei), (4, .int (nI b1))]) dX5_program_8 (by decide) rfl ?_
  refine e_aload 0 dX5_program_10 rfl ?_
  refine e_ifnull dX5_program_12 ?_
  refine e_iload 4 dX5_program_15 rfl ?_
  refine e_if_lt 27 dX5_program_17 (by decide) (fun h => absurd h (nI_pos (by omega))) (fun _ => ?_)
  refine e_iload 4 dX5_program_20 rfl ?_
  refine e_bipush (v := nI 8) dX5_program_22 (by decide) ?_
  refine e_icmp_leN 33 dX5_program_24 (by decide) (by omega) (by omega) (fun _ => ?_) (fun h => absurd h (by omega))
  refine e_aload 0 dX5_program_33 rfl ?_
  refine e_callV (ci := 2) (st := []) (st1 := [.int (nI (plen kf p1))]) (As := []) (k_length (G := G) hq (p := p1) (by omega) hL) dX5_program_35 (by decide) cm_X2_length lk_X5_47 im_X2_length rfl sel_X2_length (hq.Tp (by omega)) rfl rfl (Nat.le_of_ble_eq_true rfl) rfl ?_
  refine e_iload 4 dX5_program_38 rfl ?_
  refine e_iaddN dX5_program_40 ?_
  refine e_sipush (v := nI 1000) dX5_program_41 (by decide) ?_
  refine e_icmp_leN 53 dX5_program_44 (by decide) (by omega) (by omega) (fun h => absurd h (by omega)) (fun _ => ?_)
  refine e_aload_n 1 dX5_program_47 rfl ?_
  refine e_ic (nI 2) dX5_program_48 (by decide) ?_
  refine e_callV (ci := 5) (st := []) (st1 := [.int (-1)]) (As := [.int (nI 2)]) (k_refused (G := G) hC.1.1 (nI 2)) dX5_program_49 (by decide) cm_X5_refused lk_X5_43 im_X5_refused rfl sel_X5_refused hC.1.1 rfl rfl (Nat.le_of_ble_eq_true rfl) rfl ?_
  exact e_retI dX5_program_52 rfl rfl rfl

set_option maxRecDepth 100000 in
set_option maxHeartbeats 4000000 in
theorem t5_prog3 (hC : CW m o F YL AN kf vf n s nf) (hS : SN kf vf n s) (hH : HI nf s kf vf n) {p1 : Nat} (hp : p1 ≤ 31) {b1 : Nat} (hb : b1 ≤ 8) (ei : Int64) (hl : plen kf p1 + b1 ≤ 1000) (hs9 : s = 1000) : Ev G 4 uX5_program [.ref F, .int (nI p1), .long ei, .int (nI b1)] m (some (.int (-1))) (sI m 105 F (nI 5)) := by
  refine Ev.of (by decide +kernel) (Nat.le_of_ble_eq_true rfl) ?_
  have hq := hC.2.2.2.1.q
  have hL := hS.1.2.2.2.2.2.1
  have hpl := plen_le hL (p := p1) (by omega)
  refine e_lvs (lv' := [(0, .ref F), (1, .int (nI p1)), (2, .long ei), (4, .int (nI b1))]) rfl ?_
  refine e_aload_n 0 dX5_program_0 rfl ?_
  refine e_getP (some (YL.1 0)) dX5_program_1 fl_X5_12 rfl hC.1.1 hC.2.1.1 ?_
  refine e_iload_n 1 dX5_program_4 rfl ?_
  refine e_callV (ci := 0) (st := []) (st1 := [.ref (YL.1 (209 + p1))]) (As := [.int (nI p1)]) (k_programAt (G := G) hq (j := p1) (by omega)) dX5_program_5 (by decide) cm_X0_programAt lk_X5_39 im_X0_programAt rfl sel_X0_programAt (hq.T 0 (by decide)) rfl rfl (Nat.le_of_ble_eq_true rfl) rfl ?_
  refine e_astore (lv' := [(5, .ref (YL.1 (209 + p1))), (0, .ref F), (1, .int (nI p1)), (2, .long ei), (4, .int (nI b1))]) dX5_program_8 (by decide) rfl ?_
  refine e_aload 0 dX5_program_10 rfl ?_
  refine e_ifnull dX5_program_12 ?_
  refine e_iload 4 dX5_program_15 rfl ?_
  refine e_if_lt 27 dX5_program_17 (by decide) (fun h => absurd h (nI_pos (by omega))) (fun _ => ?_)
  refine e_iload 4 dX5_program_20 rfl ?_
  refine e_bipush (v := nI 8) dX5_program_22 (by decide) ?_
  refine e_icmp_leN 33 dX5_program_24 (by decide) (by omega) (by omega) (fun _ => ?_) (fun h => absurd h (by omega))
  refine e_aload 0 dX5_program_33 rfl ?_
  refine e_callV (ci := 2) (st := []) (st1 := [.int (nI (plen kf p1))]) (As := []) (k_length (G := G) hq (p := p1) (by omega) hL) dX5_program_35 (by decide) cm_X2_length lk_X5_47 im_X2_length rfl sel_X2_length (hq.Tp (by omega)) rfl rfl (Nat.le_of_ble_eq_true rfl) rfl ?_
  refine e_iload 4 dX5_program_38 rfl ?_
  refine e_iaddN dX5_program_40 ?_
  refine e_sipush (v := nI 1000) dX5_program_41 (by decide) ?_
  refine e_icmp_leN 53 dX5_program_44 (by decide) (by omega) (by omega) (fun _ => ?_) (fun h => absurd h (by omega))
  refine e_aload_n 1 dX5_program_53 rfl ?_
  refine e_ic (nI 0) dX5_program_54 (by decide) ?_
  refine e_iload_n 2 dX5_program_55 rfl ?_
  refine e_i2lN dX5_program_56 (by omega) ?_
  refine e_lload_n 3 dX5_program_57 rfl ?_
  refine e_iload 4 dX5_program_58 rfl ?_
  refine e_i2lN dX5_program_60 (by omega) ?_
  refine e_callV (ci := 5) (st := []) (st1 := [.int (nI 0)]) (As := [.int (nI 0), .long (lN p1), .long ei, .long (lN b1)]) (k_noted0 (G := G) hC hs9 (nI 0) (lN p1) ei (lN b1)) dX5_program_61 (by decide) cm_X5_noted lk_X5_53 im_X5_noted rfl sel_X5_noted hC.1.1 rfl rfl (Nat.le_of_ble_eq_true rfl) rfl ?_
  refine e_if_eq 78 dX5_program_64 (by decide) (fun _ => ?_) (fun h => absurd h (by decide))
  refine e_ic ((-1)) dX5_program_78 (by decide) ?_
  exact e_retI dX5_program_79 rfl rfl rfl

set_option maxRecDepth 100000 in
set_option maxHeartbeats 4000000 in
theorem t5_prog4 (hC : CW m o F YL AN kf vf n s nf) (hS : SN kf vf n s) (hH : HI nf s kf vf n) (hs9 : s < 1000) {p1 : Nat} (hp : p1 ≤ 31) {b1 : Nat} (hb : b1 ≤ 8) (ei : Int64) (hl : plen kf p1 + b1 ≤ 1000) : EvC G 4 uX5_program [.ref F, .int (nI p1), .long ei, .int (nI b1)] m (fun r mm => r = some (.int (nI (plen kf p1 + b1))) ∧ PM m o F YL AN mm (upd (progB (upd kf 6 (nI (s + 1))) p1 (plen (upd kf 6 (nI (s + 1))) p1) ei b1) (340 + p1) (nI (plen (upd kf 6 (nI (s + 1))) p1 + b1))) vf (nI 0)) := by
  refine EvC.of (by decide +kernel) (Nat.le_of_ble_eq_true rfl) ?_
  have hq := hC.2.2.2.1.q
  obtain ⟨k1, hk1⟩ : ∃ k1, k1 = upd kf 6 (nI (s + 1)) := ⟨_, rfl⟩
  have hS1 : SN k1 vf n s := by rw [hk1]; exact hS.six _
  have hn2 := hq.n2
  have hL := hS.1.2.2.2.2.2.1
  have hpl := plen_le hL (p := p1) (by omega)
  refine r_go (fun kk => e_lvs (lv' := [(0, .ref F), (1, .int (nI p1)), (2, .long ei), (4, .int (nI b1))]) rfl kk) ?_
  refine r_go (fun kk => e_aload_n 0 dX5_program_0 rfl kk) ?_
  refine r_go (fun kk => e_getP (some (YL.1 0)) dX5_program_1 fl_X5_12 rfl hC.1.1 hC.2.1.1 kk) ?_
  refine r_go (fun kk => e_iload_n 1 dX5_program_4 rfl kk) ?_
  refine r_go (fun kk => e_callV (ci := 0) (st := []) (st1 := [.ref (YL.1 (209 + p1))]) (As := [.int (nI p1)]) (k_programAt (G := G) hq (j := p1) (by omega)) dX5_program_5 (by decide) cm_X0_programAt lk_X5_39 im_X0_programAt rfl sel_X0_programAt (hq.T 0 (by decide)) rfl rfl (Nat.le_of_ble_eq_true rfl) rfl kk) ?_
  refine r_go (fun kk => e_astore (lv' := [(5, .ref (YL.1 (209 + p1))), (0, .ref F), (1, .int (nI p1)), (2, .long ei), (4, .int (nI b1))]) dX5_program_8 (by decide) rfl kk) ?_
  refine r_go (fun kk => e_aload 0 dX5_program_10 rfl kk) ?_
  refine r_go (fun kk => e_ifnull dX5_program_12 kk) ?_
  refine r_go (fun kk => e_iload 4 dX5_program_15 rfl kk) ?_
  refine r_go (fun kk => e_if_lt 27 dX5_program_17 (by decide) (fun h => absurd h (nI_pos (by omega))) (fun _ => kk)) ?_
  refine r_go (fun kk => e_iload 4 dX5_program_20 rfl kk) ?_
  refine r_go (fun kk => e_bipush (v := nI 8) dX5_program_22 (by decide) kk) ?_
  refine r_go (fun kk => e_icmp_leN 33 dX5_program_24 (by decide) (by omega) (by omega) (fun _ => kk) (fun h => absurd h (by omega))) ?_
  refine r_go (fun kk => e_aload 0 dX5_program_33 rfl kk) ?_
  refine r_go (fun kk => e_callV (ci := 2) (st := []) (st1 := [.int (nI (plen kf p1))]) (As := []) (k_length (G := G) hq (p := p1) (by omega) hL) dX5_program_35 (by decide) cm_X2_length lk_X5_47 im_X2_length rfl sel_X2_length (hq.Tp (by omega)) rfl rfl (Nat.le_of_ble_eq_true rfl) rfl kk) ?_
  refine r_go (fun kk => e_iload 4 dX5_program_38 rfl kk) ?_
  refine r_go (fun kk => e_iaddN dX5_program_40 kk) ?_
  refine r_go (fun kk => e_sipush (v := nI 1000) dX5_program_41 (by decide) kk) ?_
  refine r_go (fun kk => e_icmp_leN 53 dX5_program_44 (by decide) (by omega) (by omega) (fun _ => kk) (fun h => absurd h (by omega))) ?_
  refine r_go (fun kk => e_aload_n 1 dX5_program_53 rfl kk) ?_
  refine r_go (fun kk => e_ic (nI 0) dX5_program_54 (by decide) kk) ?_
  refine r_go (fun kk => e_iload_n 2 dX5_program_55 rfl kk) ?_
  refine r_go (fun kk => e_i2lN dX5_program_56 (by omega) kk) ?_
  refine r_go (fun kk => e_lload_n 3 dX5_program_57 rfl kk) ?_
  refine r_go (fun kk => e_iload 4 dX5_program_58 rfl kk) ?_
  refine r_go (fun kk => e_i2lN dX5_program_60 (by omega) kk) ?_
  obtain ⟨_, m1, ⟨rfl, o1, A1, hC1, hR1, hs1⟩, E0x61⟩ := k_noted1 (G := G) hC hs9 (nI 0) (lN p1) ei (lN b1)
  refine r_go (fun kk => e_callV (ci := 5) (st := []) (st1 := [.int (nI 1)]) (As := [.int (nI 0), .long (lN p1), .long ei, .long (lN b1)]) (E0x61) dX5_program_61 (by decide) cm_X5_noted lk_X5_53 im_X5_noted rfl sel_X5_noted hC.1.1 rfl rfl (Nat.le_of_ble_eq_true rfl) rfl kk) ?_
  rw [← hk1] at hC1
  have hq1 := hC1.2.2.2.1.q
  refine r_go (fun kk => e_if_eq 78 dX5_program_64 (by decide) (fun h => absurd h (by decide)) (fun _ => kk)) ?_
  refine r_go (fun kk => e_aload 0 dX5_program_67 rfl kk) ?_
  refine r_go (fun kk => e_lload_n 3 dX5_program_69 rfl kk) ?_
  refine r_go (fun kk => e_iload 4 dX5_program_70 rfl kk) ?_
  obtain ⟨_, m2, ⟨rfl, Y2, hSm, hq2⟩, E0x72⟩ := k_extend (G := G) hq1 (by omega) (p := p1) (b := b1) (by omega) hS1.1.2.2.2.2.2.1 hb ei (by rw [hk1, plen_6]; exact hl)
  refine r_go (fun kk => e_callV (ci := 2) (st := []) (st1 := [.int (nI (plen k1 p1 + b1))]) (As := [.long ei, .int (nI b1)]) (E0x72) dX5_program_72 (by decide) cm_X2_extend lk_X5_57 im_X2_extend rfl sel_X2_extend (hq1.Tp (by omega)) rfl rfl (Nat.le_of_ble_eq_true rfl) rfl kk) ?_
  refine r_go (fun kk => e_goto 79 dX5_program_75 (by decide) kk) ?_
  exact r_ret ⟨by rw [hk1, plen_6], by rw [← hk1]; exact PM.mk hS hH hk1 hC1 hR1 hs1 hq2 (hSm 0 (by omega)) ((upd_ne _ _ (by omega)).trans (pgB_at _ _ _ _ _ _ (by omega))) ((sn_prog hS1 (p := p1) (b := b1) (by omega) hb ei (by rw [hk1, plen_6]; exact hl)).up (by omega)) (Or.inl ⟨p1, b1, by omega, hb, by rw [hk1, plen_6]; exact hl, nI_l (by omega), rfl, rfl, rfl, rfl, rfl⟩)⟩ (e_retI dX5_program_79 rfl rfl rfl)

theorem k5_program (hC : CW m o F YL AN kf vf n s nf) (hS : SN kf vf n s) (hH : HI nf s kf vf n) (p : Int32) (ei : Int64) (b : Int32) : EvC G 4 uX5_program [.ref F, .int p, .long ei, .int b] m (fun r mm => r = some (.int (progR kf p b)) ∧ PM m o F YL AN mm (progK kf p ei b) vf (rfs kf (whyProg kf p b))) := by
  have hq := hC.2.2.2.1.q
  have hn2 := hq.n2
  have h6 := hC.2.2.2.2.2
  have hs := hC.2.2.2.2.1.2.2.2.2.1
  by_cases hx : inI p (nI 0) (nI 31) = true
  · obtain ⟨p1, -, hp, rfl⟩ := inI_n (by decide) (by decide) hx
    by_cases hy : inI b (nI 0) (nI 8) = true
    · obtain ⟨b1, -, hb, rfl⟩ := inI_n (by decide) (by decide) hy
      by_cases hl : plen kf p1 + b1 ≤ 1000
      · have hw : whyProg kf (nI p1) (nI b1) = nI 0 := by unfold whyProg; rw [hx, hy, if_pos (by decide), nI_clamp (by omega), nI_clamp (by omega), if_neg (by omega)]
        by_cases h9 : s = 1000
        · skip
          obtain ⟨e1, e2, e3⟩ := rf_full (kf := kf) (by rw [h6, h9])
          unfold progR progK
          rw [hw, e1, e2, e3]
          exact EvC.ex (t5_prog3 hC hS hH hp hb ei hl h9) ⟨rfl, PM.ref hC hS hH _⟩
        · skip
          obtain ⟨e1, e2, e3⟩ := rf_ok h6 (by omega)
          unfold progR progK
          rw [hw, e1, e2, e3]
          refine (t5_prog4 hC hS hH (by omega) hp hb ei hl).mono (fun r m' h => ?_)
          rw [if_neg (by decide), if_neg (by decide), nI_clamp (by omega), nI_clamp (by omega)]
          rw [plen_6] at h
          exact h
      · have hw : whyProg kf (nI p1) (nI b1) = nI 2 := by unfold whyProg; rw [hx, hy, if_pos (by decide), nI_clamp (by omega), nI_clamp (by omega), if_pos (by omega)]
        obtain ⟨e1, e2, e3⟩ := rf_no (kf := kf) (w := nI 2) (by decide)
        unfold progR progK
        rw [hw, e1, e2, e3]
        exact EvC.ex (t5_prog2 hC hS hH hp hb ei (by omega)) ⟨rfl, PM.ref hC hS hH _⟩
    · rw [Bool.not_eq_true] at hy
      have hw : whyProg kf (nI p1) b = nI 1 := by unfold whyProg; rw [hx, hy, if_neg (by decide)]
      obtain ⟨e1, e2, e3⟩ := rf_no (kf := kf) (w := nI 1) (by decide)
      unfold progR progK
      rw [hw, e1, e2, e3]
      exact EvC.ex (t5_prog1b hC hp ei hy) ⟨rfl, PM.ref hC hS hH _⟩
  · rw [Bool.not_eq_true] at hx
    have hw : whyProg kf p b = nI 1 := by unfold whyProg; rw [hx, if_neg (by simp)]
    obtain ⟨e1, e2, e3⟩ := rf_no (kf := kf) (w := nI 1) (by decide)
    unfold progR progK
    rw [hw, e1, e2, e3]
    exact EvC.ex (t5_prog1 hC ei hx) ⟨rfl, PM.ref hC hS hH _⟩

set_option maxRecDepth 100000 in
set_option maxHeartbeats 4000000 in
theorem t5_share3 (hC : CW m o F YL AN kf vf n s nf) {t c : Int32} (hx : tIn kf t = false) : Ev G 4 uX5_share [.ref F, .int t, .int c] m (some (.int (-1))) (sI m 105 F (nI 3)) := by
  refine Ev.of (by decide +kernel) (Nat.le_of_ble_eq_true rfl) ?_
  have hq := hC.2.2.2.1.q
  refine e_lvs (lv' := [(0, .ref F), (1, .int t), (2, .int c)]) rfl ?_
  refine e_aload_n 0 dX5_share_0 rfl ?_
  refine e_getP (some (YL.1 0)) dX5_share_1 fl_X5_12 rfl hC.1.1 hC.2.1.1 ?_
  refine e_iload_n 1 dX5_share_4 rfl ?_
  refine e_callV (ci := 0) (st := []) (st1 := [.null]) (As := [.int t]) (k_unendedN (G := G) hq hx) dX5_share_5 (by decide) cm_X0_unendedTask lk_X5_72 im_X0_unendedTask rfl sel_X0_unendedTask (hq.T 0 (by decide)) rfl rfl (Nat.le_of_ble_eq_true rfl) rfl ?_
  refine e_astore_nN (lv' := [(3, .null), (0, .ref F), (1, .int t), (2, .int c)]) dX5_share_8 (by decide) rfl ?_
  refine e_aload_nN 0 dX5_share_9 rfl ?_
  refine e_ifnonnullN dX5_share_10 ?_
  refine e_aload_n 1 dX5_share_13 rfl ?_
  refine e_ic (nI 3) dX5_share_14 (by decide) ?_
  refine e_callV (ci := 5) (st := []) (st1 := [.int (-1)]) (As := [.int (nI 3)]) (k_refused (G := G) hC.1.1 (nI 3)) dX5_share_15 (by decide) cm_X5_refused lk_X5_43 im_X5_refused rfl sel_X5_refused hC.1.1 rfl rfl (Nat.le_of_ble_eq_true rfl) rfl ?_
  exact e_retI dX5_share_18 rfl rfl rfl

set_option maxRecDepth 100000 in
set_option maxHeartbeats 4000000 in
theorem t5_share3e (hC : CW m o F YL AN kf vf n s nf) {j : Nat} {c : Int32} (hj : j < n) (hx : kg kf j 6 = 4) : Ev G 4 uX5_share [.ref F, .int (nI j), .int c] m (some (.int (-1))) (sI m 105 F (nI 3)) := by
  refine Ev.of (by decide +kernel) (Nat.le_of_ble_eq_true rfl) ?_
  have hq := hC.2.2.2.1.q
  refine e_lvs (lv' := [(0, .ref F), (1, .int (nI j)), (2, .int c)]) rfl ?_
  refine e_aload_n 0 dX5_share_0 rfl ?_
  refine e_getP (some (YL.1 0)) dX5_share_1 fl_X5_12 rfl hC.1.1 hC.2.1.1 ?_
  refine e_iload_n 1 dX5_share_4 rfl ?_
  refine e_callV (ci := 0) (st := []) (st1 := [.null]) (As := [.int (nI j)]) (k_unendedE (G := G) hq hj hx) dX5_share_5 (by decide) cm_X0_unendedTask lk_X5_72 im_X0_unendedTask rfl sel_X0_unendedTask (hq.T 0 (by decide)) rfl rfl (Nat.le_of_ble_eq_true rfl) rfl ?_
  refine e_astore_nN (lv' := [(3, .null), (0, .ref F), (1, .int (nI j)), (2, .int c)]) dX5_share_8 (by decide) rfl ?_
  refine e_aload_nN 0 dX5_share_9 rfl ?_
  refine e_ifnonnullN dX5_share_10 ?_
  refine e_aload_n 1 dX5_share_13 rfl ?_
  refine e_ic (nI 3) dX5_share_14 (by decide) ?_
  refine e_callV (ci := 5) (st := []) (st1 := [.int (-1)]) (As := [.int (nI 3)]) (k_refused (G := G) hC.1.1 (nI 3)) dX5_share_15 (by decide) cm_X5_refused lk_X5_43 im_X5_refused rfl sel_X5_refused hC.1.1 rfl rfl (Nat.le_of_ble_eq_true rfl) rfl ?_
  exact e_retI dX5_share_18 rfl rfl rfl

set_option maxRecDepth 100000 in
set_option maxHeartbeats 4000000 in
theorem t5_share1 (hC : CW m o F YL AN kf vf n s nf) {j : Nat} (hj : j < n) (h4 : ¬ kg kf j 6 = 4) {c : Int32} (hx : inI c (nI 1) (nI 1000) = false) : Ev G 4 uX5_share [.ref F, .int (nI j), .int c] m (some (.int (-1))) (sI m 105 F (nI 1)) := by
  refine Ev.of (by decide +kernel) (Nat.le_of_ble_eq_true rfl) ?_
  have hq := hC.2.2.2.1.q
  refine e_lvs (lv' := [(0, .ref F), (1, .int (nI j)), (2, .int c)]) rfl ?_
  refine e_aload_n 0 dX5_share_0 rfl ?_
  refine e_getP (some (YL.1 0)) dX5_share_1 fl_X5_12 rfl hC.1.1 hC.2.1.1 ?_
  refine e_iload_n 1 dX5_share_4 rfl ?_
  refine e_callV (ci := 0) (st := []) (st1 := [.ref (YL.1 (9 + j))]) (As := [.int (nI j)]) (k_unended (G := G) hq hj h4) dX5_share_5 (by decide) cm_X0_unendedTask lk_X5_72 im_X0_unendedTask rfl sel_X0_unendedTask (hq.T 0 (by decide)) rfl rfl (Nat.le_of_ble_eq_true rfl) rfl ?_
  refine e_astore_n (lv' := [(3, .ref (YL.1 (9 + j))), (0, .ref F), (1, .int (nI j)), (2, .int c)]) dX5_share_8 (by decide) rfl ?_
  refine e_aload_n 0 dX5_share_9 rfl ?_
  refine e_ifnonnull 19 dX5_share_10 (by decide) ?_
  refine e_iload_n 3 dX5_share_19 rfl ?_
  refine e_callS (st := []) (st1 := [.int (bI (inI c (nI 1) (nI 1000)))]) (As := [.int c]) (k_isShare (G := G) c) dX5_share_20 (by decide) cm_X5_isShare lk_X5_61 sm_X5_isShare rfl rfl (Nat.le_of_ble_eq_true rfl) rfl ?_
  refine e_if_neB 32 dX5_share_23 (by decide) (fun h => absurd h (by rw [hx]; decide)) (fun _ => ?_)
  refine e_aload_n 1 dX5_share_26 rfl ?_
  refine e_ic (nI 1) dX5_share_27 (by decide) ?_
  refine e_callV (ci := 5) (st := []) (st1 := [.int (-1)]) (As := [.int (nI 1)]) (k_refused (G := G) hC.1.1 (nI 1)) dX5_share_28 (by decide) cm_X5_refused lk_X5_43 im_X5_refused rfl sel_X5_refused hC.1.1 rfl rfl (Nat.le_of_ble_eq_true rfl) rfl ?_
  exact e_retI dX5_share_31 rfl rfl rfl

set_option maxRecDepth 100000 in
set_option maxHeartbeats 4000000 in
theorem t5_share4 (hC : CW m o F YL AN kf vf n s nf) {j : Nat} (hj : j < n) (h4 : ¬ kg kf j 6 = 4) {c1 : Nat} (hc1 : 1 ≤ c1) (hc : c1 ≤ 1000) (hs9 : s = 1000) : Ev G 4 uX5_share [.ref F, .int (nI j), .int (nI c1)] m (some (.int (-1))) (sI m 105 F (nI 5)) := by
  refine Ev.of (by decide +kernel) (Nat.le_of_ble_eq_true rfl) ?_
  have hq := hC.2.2.2.1.q
  have hn2 := hq.n2
  have hb := inI_of (j := c1) (a := 1) (b := 1000) hc1 hc (by decide)
  refine e_lvs (lv' := [(0, .ref F), (1, .int (nI j)), (2, .int (nI c1))]) rfl ?_
  refine e_aload_n 0 dX5_share_0 rfl ?_
  refine e_getP (some (YL.1 0)) dX5_share_1 fl_X5_12 rfl hC.1.1 hC.2.1.1 ?_
  refine e_iload_n 1 dX5_share_4 rfl ?_
  refine e_callV (ci := 0) (st := []) (st1 := [.ref (YL.1 (9 + j))]) (As := [.int (nI j)]) (k_unended (G := G) hq hj h4) dX5_share_5 (by decide) cm_X0_unendedTask lk_X5_72 im_X0_unendedTask rfl sel_X0_unendedTask (hq.T 0 (by decide)) rfl rfl (Nat.le_of_ble_eq_true rfl) rfl ?_
  refine e_astore_n (lv' := [(3, .ref (YL.1 (9 + j))), (0, .ref F), (1, .int (nI j)), (2, .int (nI c1))]) dX5_share_8 (by decide) rfl ?_
  refine e_aload_n 0 dX5_share_9 rfl ?_
  refine e_ifnonnull 19 dX5_share_10 (by decide) ?_
  refine e_iload_n 3 dX5_share_19 rfl ?_
  refine e_callS (st := []) (st1 := [.int (bI (inI (nI c1) (nI 1) (nI 1000)))]) (As := [.int (nI c1)]) (k_isShare (G := G) (nI c1)) dX5_share_20 (by decide) cm_X5_isShare lk_X5_61 sm_X5_isShare rfl rfl (Nat.le_of_ble_eq_true rfl) rfl ?_
  refine e_if_neB 32 dX5_share_23 (by decide) (fun _ => ?_) (fun h => absurd h (by rw [hb]; decide))
  refine e_aload_n 1 dX5_share_32 rfl ?_
  refine e_ic (nI 2) dX5_share_33 (by decide) ?_
  refine e_iload_n 2 dX5_share_34 rfl ?_
  refine e_i2lN dX5_share_35 (by omega) ?_
  refine e_iload_n 3 dX5_share_36 rfl ?_
  refine e_i2lN dX5_share_37 (by omega) ?_
  refine e_lconst (v := lN 0) dX5_share_38 (by decide) ?_
  refine e_callV (ci := 5) (st := []) (st1 := [.int (nI 0)]) (As := [.int (nI 2), .long (lN j), .long (lN c1), .long (lN 0)]) (k_noted0 (G := G) hC hs9 (nI 2) (lN j) (lN c1) (lN 0)) dX5_share_39 (by decide) cm_X5_noted lk_X5_53 im_X5_noted rfl sel_X5_noted hC.1.1 rfl rfl (Nat.le_of_ble_eq_true rfl) rfl ?_
  refine e_if_eq 53 dX5_share_42 (by decide) (fun _ => ?_) (fun h => absurd h (by decide))
  refine e_ic ((-1)) dX5_share_53 (by decide) ?_
  exact e_retI dX5_share_54 rfl rfl rfl

set_option maxRecDepth 100000 in
set_option maxHeartbeats 4000000 in
theorem t5_share5 (hC : CW m o F YL AN kf vf n s nf) (hS : SN kf vf n s) (hH : HI nf s kf vf n) (hs9 : s < 1000) {j : Nat} (hj : j < n) (h4 : ¬ kg kf j 6 = 4) {c1 : Nat} (hc1 : 1 ≤ c1) (hc : c1 ≤ 1000) : EvC G 4 uX5_share [.ref F, .int (nI j), .int (nI c1)] m (fun r mm => r = some (.int (kg kf j 2)) ∧ PM m o F YL AN mm (shrK (upd kf 6 (nI (s + 1))) j (nI c1)) vf (nI 0)) := by
  refine EvC.of (by decide +kernel) (Nat.le_of_ble_eq_true rfl) ?_
  have hq := hC.2.2.2.1.q
  obtain ⟨k1, hk1⟩ : ∃ k1, k1 = upd kf 6 (nI (s + 1)) := ⟨_, rfl⟩
  have hS1 : SN k1 vf n s := by rw [hk1]; exact hS.six _
  have hn2 := hq.n2
  have hb := inI_of (j := c1) (a := 1) (b := 1000) hc1 hc (by decide)
  refine r_go (fun kk => e_lvs (lv' := [(0, .ref F), (1, .int (nI j)), (2, .int (nI c1))]) rfl kk) ?_
  refine r_go (fun kk => e_aload_n 0 dX5_share_0 rfl kk) ?_
  refine r_go (fun kk => e_getP (some (YL.1 0)) dX5_share_1 fl_X5_12 rfl hC.1.1 hC.2.1.1 kk) ?_
  refine r_go (fun kk => e_iload_n 1 dX5_share_4 rfl kk) ?_
  refine r_go (fun kk => e_callV (ci := 0) (st := []) (st1 := [.ref (YL.1 (9 + j))]) (As := [.int (nI j)]) (k_unended (G := G) hq hj h4) dX5_share_5 (by decide) cm_X0_unendedTask lk_X5_72 im_X0_unendedTask rfl sel_X0_unendedTask (hq.T 0 (by decide)) rfl rfl (Nat.le_of_ble_eq_true rfl) rfl kk) ?_
  refine r_go (fun kk => e_astore_n (lv' := [(3, .ref (YL.1 (9 + j))), (0, .ref F), (1, .int (nI j)), (2, .int (nI c1))]) dX5_share_8 (by decide) rfl kk) ?_
  refine r_go (fun kk => e_aload_n 0 dX5_share_9 rfl kk) ?_
  refine r_go (fun kk => e_ifnonnull 19 dX5_share_10 (by decide) kk) ?_
  refine r_go (fun kk => e_iload_n 3 dX5_share_19 rfl kk) ?_
  refine r_go (fun kk => e_callS (st := []) (st1 := [.int (bI (inI (nI c1) (nI 1) (nI 1000)))]) (As := [.int (nI c1)]) (k_isShare (G := G) (nI c1)) dX5_share_20 (by decide) cm_X5_isShare lk_X5_61 sm_X5_isShare rfl rfl (Nat.le_of_ble_eq_true rfl) rfl kk) ?_
  refine r_go (fun kk => e_if_neB 32 dX5_share_23 (by decide) (fun _ => kk) (fun h => absurd h (by rw [hb]; decide))) ?_
  refine r_go (fun kk => e_aload_n 1 dX5_share_32 rfl kk) ?_
  refine r_go (fun kk => e_ic (nI 2) dX5_share_33 (by decide) kk) ?_
  refine r_go (fun kk => e_iload_n 2 dX5_share_34 rfl kk) ?_
  refine r_go (fun kk => e_i2lN dX5_share_35 (by omega) kk) ?_
  refine r_go (fun kk => e_iload_n 3 dX5_share_36 rfl kk) ?_
  refine r_go (fun kk => e_i2lN dX5_share_37 (by omega) kk) ?_
  refine r_go (fun kk => e_lconst (v := lN 0) dX5_share_38 (by decide) kk) ?_
  obtain ⟨_, m1, ⟨rfl, o1, A1, hC1, hR1, hs1⟩, E0x39⟩ := k_noted1 (G := G) hC hs9 (nI 2) (lN j) (lN c1) (lN 0)
  refine r_go (fun kk => e_callV (ci := 5) (st := []) (st1 := [.int (nI 1)]) (As := [.int (nI 2), .long (lN j), .long (lN c1), .long (lN 0)]) (E0x39) dX5_share_39 (by decide) cm_X5_noted lk_X5_53 im_X5_noted rfl sel_X5_noted hC.1.1 rfl rfl (Nat.le_of_ble_eq_true rfl) rfl kk) ?_
  rw [← hk1] at hC1
  have hq1 := hC1.2.2.2.1.q
  refine r_go (fun kk => e_if_eq 53 dX5_share_42 (by decide) (fun h => absurd h (by decide)) (fun _ => kk)) ?_
  refine r_go (fun kk => e_aload_n 0 dX5_share_45 rfl kk) ?_
  refine r_go (fun kk => e_iload_n 3 dX5_share_46 rfl kk) ?_
  obtain ⟨_, m2, ⟨rfl, hq2⟩, E0x47⟩ := k_changeShare (G := G) hq1 (by omega) (t := j) hj (nI c1)
  refine r_go (fun kk => e_callV (ci := 4) (st := []) (st1 := [.int (kg k1 j 2)]) (As := [.int (nI c1)]) (E0x47) dX5_share_47 (by decide) cm_X4_changeShare lk_X5_76 im_X4_changeShare rfl sel_X4_changeShare (hq1.Tt (by omega)) rfl rfl (Nat.le_of_ble_eq_true rfl) rfl kk) ?_
  refine r_go (fun kk => e_goto 54 dX5_share_50 (by decide) kk) ?_
  exact r_ret ⟨by rw [hk1, kg_6], by rw [← hk1]; exact PM.mk hS hH hk1 hC1 hR1 hs1 hq2 rfl ((ks_at _ _ _ _ _ (by omega)).trans (ks_at _ _ _ _ _ (by omega))) ((sn_share hS1 hj hc1 hc).up (by omega)) (Or.inr (Or.inr (Or.inl ⟨j, nI c1, hj, nI_l (by omega), rfl, (nI_l (by omega)).symm, rfl, rfl, rfl⟩)))⟩ (e_retI dX5_share_54 rfl rfl rfl)

theorem k5_share (hC : CW m o F YL AN kf vf n s nf) (hS : SN kf vf n s) (hH : HI nf s kf vf n) (t c : Int32) : EvC G 4 uX5_share [.ref F, .int t, .int c] m (fun r mm => r = some (.int (shareR kf t c)) ∧ PM m o F YL AN mm (shareK kf t c) vf (rfs kf (whyShare kf t c))) := by
  have hq := hC.2.2.2.1.q
  have hn2 := hq.n2
  have h6 := hC.2.2.2.2.2
  have hs := hC.2.2.2.2.1.2.2.2.2.1
  by_cases hx : tIn kf t = true
  · obtain ⟨j, hj, rfl⟩ := tIn_n hq.n1 hn2 hx
    have ej : (nI j).toNatClampNeg = j := nI_clamp (by omega)
    by_cases h4 : kg kf j 6 = 4
    · have hv : lvg kf (nI j) = false := by unfold lvg; rw [ej, hx, decide_eq_false (not_not_intro h4)]; rfl
      have hw : whyShare kf (nI j) c = nI 3 := by unfold whyShare; rw [hv, if_neg (by decide)]
      obtain ⟨e1, e2, e3⟩ := rf_no (kf := kf) (w := nI 3) (by decide)
      unfold shareR shareK
      rw [hw, e1, e2, e3]
      exact EvC.ex (t5_share3e hC hj h4) ⟨rfl, PM.ref hC hS hH _⟩
    · have hv : lvg kf (nI j) = true := by unfold lvg; rw [ej, hx, decide_eq_true h4]; rfl
      by_cases hy : inI c (nI 1) (nI 1000) = true
      · have hw : whyShare kf (nI j) c = nI 0 := by unfold whyShare; rw [hv, if_pos rfl, if_pos hy]
        obtain ⟨c1, hc1, hc, rfl⟩ := inI_n (by decide) (by decide) hy
        by_cases h9 : s = 1000
        · skip
          obtain ⟨e1, e2, e3⟩ := rf_full (kf := kf) (by rw [h6, h9])
          unfold shareR shareK
          rw [hw, e1, e2, e3]
          exact EvC.ex (t5_share4 hC hj h4 hc1 hc h9) ⟨rfl, PM.ref hC hS hH _⟩
        · skip
          obtain ⟨e1, e2, e3⟩ := rf_ok h6 (by omega)
          unfold shareR shareK
          rw [hw, e1, e2, e3]
          refine (t5_share5 hC hS hH (by omega) hj h4 hc1 hc).mono (fun r m' h => ?_)
          rw [if_neg (by decide), if_neg (by decide), ej]
          exact h
      · rw [Bool.not_eq_true] at hy
        have hw : whyShare kf (nI j) c = nI 1 := by unfold whyShare; rw [hv, if_pos rfl, if_neg (by rw [hy]; decide)]
        obtain ⟨e1, e2, e3⟩ := rf_no (kf := kf) (w := nI 1) (by decide)
        unfold shareR shareK
        rw [hw, e1, e2, e3]
        exact EvC.ex (t5_share1 hC hj h4 hy) ⟨rfl, PM.ref hC hS hH _⟩
  · rw [Bool.not_eq_true] at hx
    have hv : lvg kf t = false := by unfold lvg; rw [hx]; rfl
    have hw : whyShare kf t c = nI 3 := by unfold whyShare; rw [hv, if_neg (by decide)]
    obtain ⟨e1, e2, e3⟩ := rf_no (kf := kf) (w := nI 3) (by decide)
    unfold shareR shareK
    rw [hw, e1, e2, e3]
    exact EvC.ex (t5_share3 hC hx) ⟨rfl, PM.ref hC hS hH _⟩

set_option maxRecDepth 100000 in
set_option maxHeartbeats 4000000 in
theorem t5_dead3 (hC : CW m o F YL AN kf vf n s nf) {t p b : Int32} (hx : tIn kf t = false) : Ev G 4 uX5_deadline [.ref F, .int t, .int p, .int b] m (some (.int (nI 0))) (sI m 105 F (nI 3)) := by
  refine Ev.of (by decide +kernel) (Nat.le_of_ble_eq_true rfl) ?_
  have hq := hC.2.2.2.1.q
  refine e_lvs (lv' := [(0, .ref F), (1, .int t), (2, .int p), (3, .int b)]) rfl ?_
  refine e_aload_n 0 dX5_deadline_0 rfl ?_
  refine e_getP (some (YL.1 0)) dX5_deadline_1 fl_X5_12 rfl hC.1.1 hC.2.1.1 ?_
  refine e_iload_n 1 dX5_deadline_4 rfl ?_
  refine e_callV (ci := 0) (st := []) (st1 := [.null]) (As := [.int t]) (k_unendedN (G := G) hq hx) dX5_deadline_5 (by decide) cm_X0_unendedTask lk_X5_72 im_X0_unendedTask rfl sel_X0_unendedTask (hq.T 0 (by decide)) rfl rfl (Nat.le_of_ble_eq_true rfl) rfl ?_
  refine e_astoreN (lv' := [(4, .null), (0, .ref F), (1, .int t), (2, .int p), (3, .int b)]) dX5_deadline_8 (by decide) rfl ?_
  refine e_ic (nI 0) dX5_deadline_10 (by decide) ?_
  refine e_istore (lv' := [(5, .int (nI 0)), (4, .null), (0, .ref F), (1, .int t), (2, .int p), (3, .int b)]) dX5_deadline_11 (by decide) rfl ?_
  refine e_aloadN 1 dX5_deadline_13 rfl ?_
  refine e_ifnonnullN dX5_deadline_15 ?_
  refine e_ic (nI 3) dX5_deadline_18 (by decide) ?_
  refine e_istore (lv' := [(5, .int (nI 3)), (4, .null), (0, .ref F), (1, .int t), (2, .int p), (3, .int b)]) dX5_deadline_19 (by decide) rfl ?_
  refine e_goto 62 dX5_deadline_21 (by decide) ?_
  refine e_aloadN 1 dX5_deadline_62 rfl ?_
  refine e_ifnullN 72 dX5_deadline_64 (by decide) ?_
  refine e_aload_n 2 dX5_deadline_72 rfl ?_
  refine e_iload 0 dX5_deadline_73 rfl ?_
  refine e_callV (ci := 5) (st := []) (st1 := [.int (-1)]) (As := [.int (nI 3)]) (k_refused (G := G) hC.1.1 (nI 3)) dX5_deadline_75 (by decide) cm_X5_refused lk_X5_43 im_X5_refused rfl sel_X5_refused hC.1.1 rfl rfl (Nat.le_of_ble_eq_true rfl) rfl ?_
  refine e_pop dX5_deadline_78 rfl ?_
  refine e_ic (nI 0) dX5_deadline_79 (by decide) ?_
  exact e_retI dX5_deadline_80 rfl rfl rfl

set_option maxRecDepth 100000 in
set_option maxHeartbeats 4000000 in
theorem t5_dead3e (hC : CW m o F YL AN kf vf n s nf) {j : Nat} {p b : Int32} (hj : j < n) (hx : kg kf j 6 = 4) : Ev G 4 uX5_deadline [.ref F, .int (nI j), .int p, .int b] m (some (.int (nI 0))) (sI m 105 F (nI 3)) := by
  refine Ev.of (by decide +kernel) (Nat.le_of_ble_eq_true rfl) ?_
  have hq := hC.2.2.2.1.q
  refine e_lvs (lv' := [(0, .ref F), (1, .int (nI j)), (2, .int p), (3, .int b)]) rfl ?_
  refine e_aload_n 0 dX5_deadline_0 rfl ?_
  refine e_getP (some (YL.1 0)) dX5_deadline_1 fl_X5_12 rfl hC.1.1 hC.2.1.1 ?_
  refine e_iload_n 1 dX5_deadline_4 rfl ?_
  refine e_callV (ci := 0) (st := []) (st1 := [.null]) (As := [.int (nI j)]) (k_unendedE (G := G) hq hj hx) dX5_deadline_5 (by decide) cm_X0_unendedTask lk_X5_72 im_X0_unendedTask rfl sel_X0_unendedTask (hq.T 0 (by decide)) rfl rfl (Nat.le_of_ble_eq_true rfl) rfl ?_
  refine e_astoreN (lv' := [(4, .null), (0, .ref F), (1, .int (nI j)), (2, .int p), (3, .int b)]) dX5_deadline_8 (by decide) rfl ?_
  refine e_ic (nI 0) dX5_deadline_10 (by decide) ?_
  refine e_istore (lv' := [(5, .int (nI 0)), (4, .null), (0, .ref F), (1, .int (nI j)), (2, .int p), (3, .int b)]) dX5_deadline_11 (by decide) rfl ?_
  refine e_aloadN 1 dX5_deadline_13 rfl ?_
  refine e_ifnonnullN dX5_deadline_15 ?_
  refine e_ic (nI 3) dX5_deadline_18 (by decide) ?_
  refine e_istore (lv' := [(5, .int (nI 3)), (4, .null), (0, .ref F), (1, .int (nI j)), (2, .int p), (3, .int b)]) dX5_deadline_19 (by decide) rfl ?_
  refine e_goto 62 dX5_deadline_21 (by decide) ?_
  refine e_aloadN 1 dX5_deadline_62 rfl ?_
  refine e_ifnullN 72 dX5_deadline_64 (by decide) ?_
  refine e_aload_n 2 dX5_deadline_72 rfl ?_
  refine e_iload 0 dX5_deadline_73 rfl ?_
  refine e_callV (ci := 5) (st := []) (st1 := [.int (-1)]) (As := [.int (nI 3)]) (k_refused (G := G) hC.1.1 (nI 3)) dX5_deadline_75 (by decide) cm_X5_refused lk_X5_43 im_X5_refused rfl sel_X5_refused hC.1.1 rfl rfl (Nat.le_of_ble_eq_true rfl) rfl ?_
  refine e_pop dX5_deadline_78 rfl ?_
  refine e_ic (nI 0) dX5_deadline_79 (by decide) ?_
  exact e_retI dX5_deadline_80 rfl rfl rfl

set_option maxRecDepth 100000 in
set_option maxHeartbeats 4000000 in
theorem t5_dead4 (hC : CW m o F YL AN kf vf n s nf) {j : Nat} (hj : j < n) (h4 : ¬ kg kf j 6 = 4) {p b : Int32} (hd : isDue kf j = false) : Ev G 4 uX5_deadline [.ref F, .int (nI j), .int p, .int b] m (some (.int (nI 0))) (sI m 105 F (nI 4)) := by
  refine Ev.of (by decide +kernel) (Nat.le_of_ble_eq_true rfl) ?_
  have hq := hC.2.2.2.1.q
  have hn2 := hq.n2
  refine e_lvs (lv' := [(0, .ref F), (1, .int (nI j)), (2, .int p), (3, .int b)]) rfl ?_
  refine e_aload_n 0 dX5_deadline_0 rfl ?_
  refine e_getP (some (YL.1 0)) dX5_deadline_1 fl_X5_12 rfl hC.1.1 hC.2.1.1 ?_
  refine e_iload_n 1 dX5_deadline_4 rfl ?_
  refine e_callV (ci := 0) (st := []) (st1 := [.ref (YL.1 (9 + j))]) (As := [.int (nI j)]) (k_unended (G := G) hq hj h4) dX5_deadline_5 (by decide) cm_X0_unendedTask lk_X5_72 im_X0_unendedTask rfl sel_X0_unendedTask (hq.T 0 (by decide)) rfl rfl (Nat.le_of_ble_eq_true rfl) rfl ?_
  refine e_astore (lv' := [(4, .ref (YL.1 (9 + j))), (0, .ref F), (1, .int (nI j)), (2, .int p), (3, .int b)]) dX5_deadline_8 (by decide) rfl ?_
  refine e_ic (nI 0) dX5_deadline_10 (by decide) ?_
  refine e_istore (lv' := [(5, .int (nI 0)), (4, .ref (YL.1 (9 + j))), (0, .ref F), (1, .int (nI j)), (2, .int p), (3, .int b)]) dX5_deadline_11 (by decide) rfl ?_
  refine e_aload 1 dX5_deadline_13 rfl ?_
  refine e_ifnonnull 24 dX5_deadline_15 (by decide) ?_
  refine e_aload 1 dX5_deadline_24 rfl ?_
  refine e_callV (ci := 4) (st := []) (st1 := [.int (bI (isDue kf j))]) (As := []) (k_hasDeadline (G := G) hq hj) dX5_deadline_26 (by decide) cm_X4_hasDeadline lk_X5_81 im_X4_hasDeadline rfl sel_X4_hasDeadline (hq.Tt (by omega)) rfl rfl (Nat.le_of_ble_eq_true rfl) rfl ?_
  refine e_if_neB 38 dX5_deadline_29 (by decide) (fun h => absurd h (by rw [hd]; decide)) (fun _ => ?_)
  refine e_ic (nI 4) dX5_deadline_32 (by decide) ?_
  refine e_istore (lv' := [(5, .int (nI 4)), (4, .ref (YL.1 (9 + j))), (0, .ref F), (1, .int (nI j)), (2, .int p), (3, .int b)]) dX5_deadline_33 (by decide) rfl ?_
  refine e_goto 62 dX5_deadline_35 (by decide) ?_
  refine e_aload 1 dX5_deadline_62 rfl ?_
  refine e_ifnull dX5_deadline_64 ?_
  refine e_iload 0 dX5_deadline_67 rfl ?_
  refine e_if_eq 81 dX5_deadline_69 (by decide) (fun h => absurd h (by decide)) (fun _ => ?_)
  refine e_aload_n 2 dX5_deadline_72 rfl ?_
  refine e_iload 0 dX5_deadline_73 rfl ?_
  refine e_callV (ci := 5) (st := []) (st1 := [.int (-1)]) (As := [.int (nI 4)]) (k_refused (G := G) hC.1.1 (nI 4)) dX5_deadline_75 (by decide) cm_X5_refused lk_X5_43 im_X5_refused rfl sel_X5_refused hC.1.1 rfl rfl (Nat.le_of_ble_eq_true rfl) rfl ?_
  refine e_pop dX5_deadline_78 rfl ?_
  refine e_ic (nI 0) dX5_deadline_79 (by decide) ?_
  exact e_retI dX5_deadline_80 rfl rfl rfl

set_option maxRecDepth 100000 in
set_option maxHeartbeats 4000000 in
theorem t5_dead1 (hC : CW m o F YL AN kf vf n s nf) {j : Nat} (hj : j < n) (h4 : ¬ kg kf j 6 = 4) {p b : Int32} (hd : isDue kf j = true) (hg : ¬ (inI p (nI 1) (nI 1000) = true ∧ inI b (nI 0) p = true)) : Ev G 4 uX5_deadline [.ref F, .int (nI j), .int p, .int b] m (some (.int (nI 0))) (sI m 105 F (nI 1)) := by
  refine Ev.of (by decide +kernel) (Nat.le_of_ble_eq_true rfl) ?_
  have hq := hC.2.2.2.1.q
  have hn2 := hq.n2
  refine e_lvs (lv' := [(0, .ref F), (1, .int (nI j)), (2, .int p), (3, .int b)]) rfl ?_
  refine e_aload_n 0 dX5_deadline_0 rfl ?_
  refine e_getP (some (YL.1 0)) dX5_deadline_1 fl_X5_12 rfl hC.1.1 hC.2.1.1 ?_
  refine e_iload_n 1 dX5_deadline_4 rfl ?_
  refine e_callV (ci := 0) (st := []) (st1 := [.ref (YL.1 (9 + j))]) (As := [.int (nI j)]) (k_unended (G := G) hq hj h4) dX5_deadline_5 (by decide) cm_X0_unendedTask lk_X5_72 im_X0_unendedTask rfl sel_X0_unendedTask (hq.T 0 (by decide)) rfl rfl (Nat.le_of_ble_eq_true rfl) rfl ?_
  refine e_astore (lv' := [(4, .ref (YL.1 (9 + j))), (0, .ref F), (1, .int (nI j)), (2, .int p), (3, .int b)]) dX5_deadline_8 (by decide) rfl ?_
  refine e_ic (nI 0) dX5_deadline_10 (by decide) ?_
  refine e_istore (lv' := [(5, .int (nI 0)), (4, .ref (YL.1 (9 + j))), (0, .ref F), (1, .int (nI j)), (2, .int p), (3, .int b)]) dX5_deadline_11 (by decide) rfl ?_
  refine e_aload 1 dX5_deadline_13 rfl ?_
  refine e_ifnonnull 24 dX5_deadline_15 (by decide) ?_
  refine e_aload 1 dX5_deadline_24 rfl ?_
  refine e_callV (ci := 4) (st := []) (st1 := [.int (bI (isDue kf j))]) (As := []) (k_hasDeadline (G := G) hq hj) dX5_deadline_26 (by decide) cm_X4_hasDeadline lk_X5_81 im_X4_hasDeadline rfl sel_X4_hasDeadline (hq.Tt (by omega)) rfl rfl (Nat.le_of_ble_eq_true rfl) rfl ?_
  refine e_if_neB 38 dX5_deadline_29 (by decide) (fun _ => ?_) (fun h => absurd h (by rw [hd]; decide))
  refine e_iload_n 4 dX5_deadline_38 rfl ?_
  refine e_ic (nI 1) dX5_deadline_39 (by decide) ?_
  refine e_iv (w := 1) rfl ?_
  refine e_icmp_lt 59 dX5_deadline_40 (by decide) (fun q40 => ?_) (fun q40 => ?_)
  · skip
    have q40' := Int32.not_le.mpr q40
    refine e_ic (nI 1) dX5_deadline_59 (by decide) ?_
    refine e_istore (lv' := [(5, .int (nI 1)), (4, .ref (YL.1 (9 + j))), (0, .ref F), (1, .int (nI j)), (2, .int p), (3, .int b)]) dX5_deadline_60 (by decide) rfl ?_
    refine e_aload 1 dX5_deadline_62 rfl ?_
    refine e_ifnull dX5_deadline_64 ?_
    refine e_iload 0 dX5_deadline_67 rfl ?_
    refine e_if_eq 81 dX5_deadline_69 (by decide) (fun h => absurd h (by decide)) (fun _ => ?_)
    refine e_aload_n 2 dX5_deadline_72 rfl ?_
    refine e_iload 0 dX5_deadline_73 rfl ?_
    refine e_callV (ci := 5) (st := []) (st1 := [.int (-1)]) (As := [.int (nI 1)]) (k_refused (G := G) hC.1.1 (nI 1)) dX5_deadline_75 (by decide) cm_X5_refused lk_X5_43 im_X5_refused rfl sel_X5_refused hC.1.1 rfl rfl (Nat.le_of_ble_eq_true rfl) rfl ?_
    refine e_pop dX5_deadline_78 rfl ?_
    refine e_ic (nI 0) dX5_deadline_79 (by decide) ?_
    exact e_retI dX5_deadline_80 rfl rfl rfl
  · skip
    have q40' := Int32.not_lt.mp q40
    refine e_iload_n 4 dX5_deadline_43 rfl ?_
    refine e_sipush (v := nI 1000) dX5_deadline_44 (by decide) ?_
    refine e_iv (w := 1000) rfl ?_
    refine e_icmp_gt 59 dX5_deadline_47 (by decide) (fun q47 => ?_) (fun q47 => ?_)
    · skip
      have q47' := Int32.not_le.mpr q47
      refine e_ic (nI 1) dX5_deadline_59 (by decide) ?_
      refine e_istore (lv' := [(5, .int (nI 1)), (4, .ref (YL.1 (9 + j))), (0, .ref F), (1, .int (nI j)), (2, .int p), (3, .int b)]) dX5_deadline_60 (by decide) rfl ?_
      refine e_aload 1 dX5_deadline_62 rfl ?_
      refine e_ifnull dX5_deadline_64 ?_
      refine e_iload 0 dX5_deadline_67 rfl ?_
      refine e_if_eq 81 dX5_deadline_69 (by decide) (fun h => absurd h (by decide)) (fun _ => ?_)
      refine e_aload_n 2 dX5_deadline_72 rfl ?_
      refine e_iload 0 dX5_deadline_73 rfl ?_
      refine e_callV (ci := 5) (st := []) (st1 := [.int (-1)]) (As := [.int (nI 1)]) (k_refused (G := G) hC.1.1 (nI 1)) dX5_deadline_75 (by decide) cm_X5_refused lk_X5_43 im_X5_refused rfl sel_X5_refused hC.1.1 rfl rfl (Nat.le_of_ble_eq_true rfl) rfl ?_
      refine e_pop dX5_deadline_78 rfl ?_
      refine e_ic (nI 0) dX5_deadline_79 (by decide) ?_
      exact e_retI dX5_deadline_80 rfl rfl rfl
    · skip
      have q47' := Int32.not_lt.mp q47
      refine e_iload_n 5 dX5_deadline_50 rfl ?_
      refine e_if_lt 59 dX5_deadline_51 (by decide) (fun q51 => ?_) (fun q51 => ?_)
      · skip
        have q51' := Int32.not_le.mpr q51
        refine e_ic (nI 1) dX5_deadline_59 (by decide) ?_
        refine e_istore (lv' := [(5, .int (nI 1)), (4, .ref (YL.1 (9 + j))), (0, .ref F), (1, .int (nI j)), (2, .int p), (3, .int b)]) dX5_deadline_60 (by decide) rfl ?_
        refine e_aload 1 dX5_deadline_62 rfl ?_
        refine e_ifnull dX5_deadline_64 ?_
        refine e_iload 0 dX5_deadline_67 rfl ?_
        refine e_if_eq 81 dX5_deadline_69 (by decide) (fun h => absurd h (by decide)) (fun _ => ?_)
        refine e_aload_n 2 dX5_deadline_72 rfl ?_
        refine e_iload 0 dX5_deadline_73 rfl ?_
        refine e_callV (ci := 5) (st := []) (st1 := [.int (-1)]) (As := [.int (nI 1)]) (k_refused (G := G) hC.1.1 (nI 1)) dX5_deadline_75 (by decide) cm_X5_refused lk_X5_43 im_X5_refused rfl sel_X5_refused hC.1.1 rfl rfl (Nat.le_of_ble_eq_true rfl) rfl ?_
        refine e_pop dX5_deadline_78 rfl ?_
        refine e_ic (nI 0) dX5_deadline_79 (by decide) ?_
        exact e_retI dX5_deadline_80 rfl rfl rfl
      · skip
        have q51' := Int32.not_lt.mp q51
        refine e_iload_n 5 dX5_deadline_54 rfl ?_
        refine e_iload_n 4 dX5_deadline_55 rfl ?_
        refine e_icmp_le 62 dX5_deadline_56 (by decide) (fun q56 => ?_) (fun q56 => ?_)
        · skip
          have q56' := Int32.not_lt.mpr q56
          exact absurd (⟨decide_eq_true ⟨Int32.not_lt.mp q40, Int32.not_lt.mp q47⟩, decide_eq_true ⟨Int32.not_lt.mp q51, q56⟩⟩ : inI p (nI 1) (nI 1000) = true ∧ inI b (nI 0) p = true) hg
        · skip
          have q56' := Int32.not_le.mp q56
          refine e_ic (nI 1) dX5_deadline_59 (by decide) ?_
          refine e_istore (lv' := [(5, .int (nI 1)), (4, .ref (YL.1 (9 + j))), (0, .ref F), (1, .int (nI j)), (2, .int p), (3, .int b)]) dX5_deadline_60 (by decide) rfl ?_
          refine e_aload 1 dX5_deadline_62 rfl ?_
          refine e_ifnull dX5_deadline_64 ?_
          refine e_iload 0 dX5_deadline_67 rfl ?_
          refine e_if_eq 81 dX5_deadline_69 (by decide) (fun h => absurd h (by decide)) (fun _ => ?_)
          refine e_aload_n 2 dX5_deadline_72 rfl ?_
          refine e_iload 0 dX5_deadline_73 rfl ?_
          refine e_callV (ci := 5) (st := []) (st1 := [.int (-1)]) (As := [.int (nI 1)]) (k_refused (G := G) hC.1.1 (nI 1)) dX5_deadline_75 (by decide) cm_X5_refused lk_X5_43 im_X5_refused rfl sel_X5_refused hC.1.1 rfl rfl (Nat.le_of_ble_eq_true rfl) rfl ?_
          refine e_pop dX5_deadline_78 rfl ?_
          refine e_ic (nI 0) dX5_deadline_79 (by decide) ?_
          exact e_retI dX5_deadline_80 rfl rfl rfl

set_option maxRecDepth 100000 in
set_option maxHeartbeats 4000000 in
theorem t5_dead5 (hC : CW m o F YL AN kf vf n s nf) {j : Nat} (hj : j < n) (h4 : ¬ kg kf j 6 = 4) (hd : isDue kf j = true) {p1 b1 : Nat} (hp1 : 1 ≤ p1) (hp : p1 ≤ 1000) (hb : b1 ≤ p1) (hs9 : s = 1000) : Ev G 4 uX5_deadline [.ref F, .int (nI j), .int (nI p1), .int (nI b1)] m (some (.int (nI 0))) (sI m 105 F (nI 5)) := by
  refine Ev.of (by decide +kernel) (Nat.le_of_ble_eq_true rfl) ?_
  have hq := hC.2.2.2.1.q
  have hn2 := hq.n2
  refine e_lvs (lv' := [(0, .ref F), (1, .int (nI j)), (2, .int (nI p1)), (3, .int (nI b1))]) rfl ?_
  refine e_aload_n 0 dX5_deadline_0 rfl ?_
  refine e_getP (some (YL.1 0)) dX5_deadline_1 fl_X5_12 rfl hC.1.1 hC.2.1.1 ?_
  refine e_iload_n 1 dX5_deadline_4 rfl ?_
  refine e_callV (ci := 0) (st := []) (st1 := [.ref (YL.1 (9 + j))]) (As := [.int (nI j)]) (k_unended (G := G) hq hj h4) dX5_deadline_5 (by decide) cm_X0_unendedTask lk_X5_72 im_X0_unendedTask rfl sel_X0_unendedTask (hq.T 0 (by decide)) rfl rfl (Nat.le_of_ble_eq_true rfl) rfl ?_
  refine e_astore (lv' := [(4, .ref (YL.1 (9 + j))), (0, .ref F), (1, .int (nI j)), (2, .int (nI p1)), (3, .int (nI b1))]) dX5_deadline_8 (by decide) rfl ?_
  refine e_ic (nI 0) dX5_deadline_10 (by decide) ?_
  refine e_istore (lv' := [(5, .int (nI 0)), (4, .ref (YL.1 (9 + j))), (0, .ref F), (1, .int (nI j)), (2, .int (nI p1)), (3, .int (nI b1))]) dX5_deadline_11 (by decide) rfl ?_
  refine e_aload 1 dX5_deadline_13 rfl ?_
  refine e_ifnonnull 24 dX5_deadline_15 (by decide) ?_
  refine e_aload 1 dX5_deadline_24 rfl ?_
  refine e_callV (ci := 4) (st := []) (st1 := [.int (bI (isDue kf j))]) (As := []) (k_hasDeadline (G := G) hq hj) dX5_deadline_26 (by decide) cm_X4_hasDeadline lk_X5_81 im_X4_hasDeadline rfl sel_X4_hasDeadline (hq.Tt (by omega)) rfl rfl (Nat.le_of_ble_eq_true rfl) rfl ?_
  refine e_if_neB 38 dX5_deadline_29 (by decide) (fun _ => ?_) (fun h => absurd h (by rw [hd]; decide))
  refine e_iload_n 4 dX5_deadline_38 rfl ?_
  refine e_ic (nI 1) dX5_deadline_39 (by decide) ?_
  refine e_icmp_ltN 59 dX5_deadline_40 (by decide) (by omega) (by omega) (fun h => absurd h (by omega)) (fun _ => ?_)
  refine e_iload_n 4 dX5_deadline_43 rfl ?_
  refine e_sipush (v := nI 1000) dX5_deadline_44 (by decide) ?_
  refine e_icmp_gtN 59 dX5_deadline_47 (by decide) (by omega) (by omega) (fun h => absurd h (by omega)) (fun _ => ?_)
  refine e_iload_n 5 dX5_deadline_50 rfl ?_
  refine e_if_lt 59 dX5_deadline_51 (by decide) (fun h => absurd h (nI_pos (by omega))) (fun _ => ?_)
  refine e_iload_n 5 dX5_deadline_54 rfl ?_
  refine e_iload_n 4 dX5_deadline_55 rfl ?_
  refine e_icmp_leN 62 dX5_deadline_56 (by decide) (by omega) (by omega) (fun _ => ?_) (fun h => absurd h (by omega))
  refine e_aload 1 dX5_deadline_62 rfl ?_
  refine e_ifnull dX5_deadline_64 ?_
  refine e_iload 0 dX5_deadline_67 rfl ?_
  refine e_if_eq 81 dX5_deadline_69 (by decide) (fun _ => ?_) (fun h => absurd h (by decide))
  refine e_aload_n 2 dX5_deadline_81 rfl ?_
  refine e_ic (nI 3) dX5_deadline_82 (by decide) ?_
  refine e_iload_n 3 dX5_deadline_83 rfl ?_
  refine e_i2lN dX5_deadline_84 (by omega) ?_
  refine e_iload_n 4 dX5_deadline_85 rfl ?_
  refine e_i2lN dX5_deadline_86 (by omega) ?_
  refine e_iload_n 5 dX5_deadline_87 rfl ?_
  refine e_i2lN dX5_deadline_88 (by omega) ?_
  refine e_callV (ci := 5) (st := []) (st1 := [.int (nI 0)]) (As := [.int (nI 3), .long (lN j), .long (lN p1), .long (lN b1)]) (k_noted0 (G := G) hC hs9 (nI 3) (lN j) (lN p1) (lN b1)) dX5_deadline_89 (by decide) cm_X5_noted lk_X5_53 im_X5_noted rfl sel_X5_noted hC.1.1 rfl rfl (Nat.le_of_ble_eq_true rfl) rfl ?_
  refine e_if_ne 97 dX5_deadline_92 (by decide) (fun h => absurd h (not_not_intro rfl)) (fun _ => ?_)
  refine e_ic (nI 0) dX5_deadline_95 (by decide) ?_
  exact e_retI dX5_deadline_96 rfl rfl rfl

set_option maxRecDepth 100000 in
set_option maxHeartbeats 4000000 in
theorem t5_dead6 (hC : CW m o F YL AN kf vf n s nf) (hS : SN kf vf n s) (hH : HI nf s kf vf n) (hs9 : s < 1000) {j : Nat} (hj : j < n) (h4 : ¬ kg kf j 6 = 4) (hd : isDue kf j = true) {p1 b1 : Nat} (hp1 : 1 ≤ p1) (hp : p1 ≤ 1000) (hb : b1 ≤ p1) : EvC G 4 uX5_deadline [.ref F, .int (nI j), .int (nI p1), .int (nI b1)] m (fun r mm => r = some (.int (nI 1)) ∧ PM m o F YL AN mm (spK (upd kf 6 (nI (s + 1))) j (nI p1) (nI b1) ((upd kf 6 (nI (s + 1))) 0)) vf (nI 0)) := by
  refine EvC.of (by decide +kernel) (Nat.le_of_ble_eq_true rfl) ?_
  have hq := hC.2.2.2.1.q
  obtain ⟨k1, hk1⟩ : ∃ k1, k1 = upd kf 6 (nI (s + 1)) := ⟨_, rfl⟩
  have hS1 : SN k1 vf n s := by rw [hk1]; exact hS.six _
  have hn2 := hq.n2
  refine r_go (fun kk => e_lvs (lv' := [(0, .ref F), (1, .int (nI j)), (2, .int (nI p1)), (3, .int (nI b1))]) rfl kk) ?_
  refine r_go (fun kk => e_aload_n 0 dX5_deadline_0 rfl kk) ?_
  refine r_go (fun kk => e_getP (some (YL.1 0)) dX5_deadline_1 fl_X5_12 rfl hC.1.1 hC.2.1.1 kk) ?_
  refine r_go (fun kk => e_iload_n 1 dX5_deadline_4 rfl kk) ?_
  refine r_go (fun kk => e_callV (ci := 0) (st := []) (st1 := [.ref (YL.1 (9 + j))]) (As := [.int (nI j)]) (k_unended (G := G) hq hj h4) dX5_deadline_5 (by decide) cm_X0_unendedTask lk_X5_72 im_X0_unendedTask rfl sel_X0_unendedTask (hq.T 0 (by decide)) rfl rfl (Nat.le_of_ble_eq_true rfl) rfl kk) ?_
  refine r_go (fun kk => e_astore (lv' := [(4, .ref (YL.1 (9 + j))), (0, .ref F), (1, .int (nI j)), (2, .int (nI p1)), (3, .int (nI b1))]) dX5_deadline_8 (by decide) rfl kk) ?_
  refine r_go (fun kk => e_ic (nI 0) dX5_deadline_10 (by decide) kk) ?_
  refine r_go (fun kk => e_istore (lv' := [(5, .int (nI 0)), (4, .ref (YL.1 (9 + j))), (0, .ref F), (1, .int (nI j)), (2, .int (nI p1)), (3, .int (nI b1))]) dX5_deadline_11 (by decide) rfl kk) ?_
  refine r_go (fun kk => e_aload 1 dX5_deadline_13 rfl kk) ?_
  refine r_go (fun kk => e_ifnonnull 24 dX5_deadline_15 (by decide) kk) ?_
  refine r_go (fun kk => e_aload 1 dX5_deadline_24 rfl kk) ?_
  refine r_go (fun kk => e_callV (ci := 4) (st := []) (st1 := [.int (bI (isDue kf j))]) (As := []) (k_hasDeadline (G := G) hq hj) dX5_deadline_26 (by decide) cm_X4_hasDeadline lk_X5_81 im_X4_hasDeadline rfl sel_X4_hasDeadline (hq.Tt (by omega)) rfl rfl (Nat.le_of_ble_eq_true rfl) rfl kk) ?_
  refine r_go (fun kk => e_if_neB 38 dX5_deadline_29 (by decide) (fun _ => kk) (fun h => absurd h (by rw [hd]; decide))) ?_
  refine r_go (fun kk => e_iload_n 4 dX5_deadline_38 rfl kk) ?_
  refine r_go (fun kk => e_ic (nI 1) dX5_deadline_39 (by decide) kk) ?_
  refine r_go (fun kk => e_icmp_ltN 59 dX5_deadline_40 (by decide) (by omega) (by omega) (fun h => absurd h (by omega)) (fun _ => kk)) ?_
  refine r_go (fun kk => e_iload_n 4 dX5_deadline_43 rfl kk) ?_
  refine r_go (fun kk => e_sipush (v := nI 1000) dX5_deadline_44 (by decide) kk) ?_
  refine r_go (fun kk => e_icmp_gtN 59 dX5_deadline_47 (by decide) (by omega) (by omega) (fun h => absurd h (by omega)) (fun _ => kk)) ?_
  refine r_go (fun kk => e_iload_n 5 dX5_deadline_50 rfl kk) ?_
  refine r_go (fun kk => e_if_lt 59 dX5_deadline_51 (by decide) (fun h => absurd h (nI_pos (by omega))) (fun _ => kk)) ?_
  refine r_go (fun kk => e_iload_n 5 dX5_deadline_54 rfl kk) ?_
  refine r_go (fun kk => e_iload_n 4 dX5_deadline_55 rfl kk) ?_
  refine r_go (fun kk => e_icmp_leN 62 dX5_deadline_56 (by decide) (by omega) (by omega) (fun _ => kk) (fun h => absurd h (by omega))) ?_
  refine r_go (fun kk => e_aload 1 dX5_deadline_62 rfl kk) ?_
  refine r_go (fun kk => e_ifnull dX5_deadline_64 kk) ?_
  refine r_go (fun kk => e_iload 0 dX5_deadline_67 rfl kk) ?_
  refine r_go (fun kk => e_if_eq 81 dX5_deadline_69 (by decide) (fun _ => kk) (fun h => absurd h (by decide))) ?_
  refine r_go (fun kk => e_aload_n 2 dX5_deadline_81 rfl kk) ?_
  refine r_go (fun kk => e_ic (nI 3) dX5_deadline_82 (by decide) kk) ?_
  refine r_go (fun kk => e_iload_n 3 dX5_deadline_83 rfl kk) ?_
  refine r_go (fun kk => e_i2lN dX5_deadline_84 (by omega) kk) ?_
  refine r_go (fun kk => e_iload_n 4 dX5_deadline_85 rfl kk) ?_
  refine r_go (fun kk => e_i2lN dX5_deadline_86 (by omega) kk) ?_
  refine r_go (fun kk => e_iload_n 5 dX5_deadline_87 rfl kk) ?_
  refine r_go (fun kk => e_i2lN dX5_deadline_88 (by omega) kk) ?_
  obtain ⟨_, m1, ⟨rfl, o1, A1, hC1, hR1, hs1⟩, E0x89⟩ := k_noted1 (G := G) hC hs9 (nI 3) (lN j) (lN p1) (lN b1)
  refine r_go (fun kk => e_callV (ci := 5) (st := []) (st1 := [.int (nI 1)]) (As := [.int (nI 3), .long (lN j), .long (lN p1), .long (lN b1)]) (E0x89) dX5_deadline_89 (by decide) cm_X5_noted lk_X5_53 im_X5_noted rfl sel_X5_noted hC.1.1 rfl rfl (Nat.le_of_ble_eq_true rfl) rfl kk) ?_
  rw [← hk1] at hC1
  have hq1 := hC1.2.2.2.1.q
  refine r_go (fun kk => e_if_ne 97 dX5_deadline_92 (by decide) (fun _ => kk) (fun h => absurd h (by decide))) ?_
  refine r_go (fun kk => e_aload 1 dX5_deadline_97 rfl kk) ?_
  refine r_go (fun kk => e_iload_n 4 dX5_deadline_99 rfl kk) ?_
  refine r_go (fun kk => e_iload_n 5 dX5_deadline_100 rfl kk) ?_
  refine r_go (fun kk => e_aload_n 2 dX5_deadline_101 rfl kk) ?_
  refine r_go (fun kk => e_getP (some (YL.1 0)) dX5_deadline_102 fl_X5_12 rfl hC1.1.1 hC1.2.1.1 kk) ?_
  refine r_go (fun kk => e_getIv (k1 0) dX5_deadline_105 fl_X5_85 rfl (hq1.T 0 (by decide)) hq1.2.1.1.1 kk) ?_
  obtain ⟨_, m2, ⟨rfl, hq2⟩, E0x108⟩ := k_startPeriod (G := G) hq1 (by omega) (t := j) hj (nI p1) (nI b1) (k1 0)
  refine r_go (fun kk => e_callV (ci := 4) (st := []) (st1 := []) (As := [.int (nI p1), .int (nI b1), .int (k1 0)]) (E0x108) dX5_deadline_108 (by decide) cm_X4_startPeriod lk_X5_88 im_X4_startPeriod rfl sel_X4_startPeriod (hq1.Tt (by omega)) rfl rfl (Nat.le_of_ble_eq_true rfl) rfl kk) ?_
  refine r_go (fun kk => e_ic (nI 1) dX5_deadline_111 (by decide) kk) ?_
  exact r_ret ⟨rfl, by rw [← hk1]; exact PM.mk hS hH hk1 hC1 hR1 hs1 hq2 rfl ((ks_at _ _ _ _ _ (by omega)).trans ((ks_at _ _ _ _ _ (by omega)).trans ((ks_at _ _ _ _ _ (by omega)).trans (ks_at _ _ _ _ _ (by omega))))) ((sn_dead hS1 (by omega) hj (by rw [hk1, due_6]; exact hd) hp1 hp rfl).up (by omega)) (Or.inr (Or.inr (Or.inr (Or.inl ⟨j, nI p1, nI b1, hj, nI_l (by omega), rfl, (nI_l (by omega)).symm, (nI_l (by omega)).symm, rfl, rfl, rfl⟩))))⟩ (e_retI dX5_deadline_112 rfl rfl rfl)

theorem k5_deadline (hC : CW m o F YL AN kf vf n s nf) (hS : SN kf vf n s) (hH : HI nf s kf vf n) (t p b : Int32) : EvC G 4 uX5_deadline [.ref F, .int t, .int p, .int b] m (fun r mm => r = some (.int (bI (!rfB kf (whyDead kf t p b)))) ∧ PM m o F YL AN mm (deadK kf t p b) vf (rfs kf (whyDead kf t p b))) := by
  have hq := hC.2.2.2.1.q
  have hn2 := hq.n2
  have h6 := hC.2.2.2.2.2
  have hs := hC.2.2.2.2.1.2.2.2.2.1
  by_cases hx : tIn kf t = true
  · obtain ⟨j, hj, rfl⟩ := tIn_n hq.n1 hn2 hx
    have ej : (nI j).toNatClampNeg = j := nI_clamp (by omega)
    by_cases h4 : kg kf j 6 = 4
    · have hv : lvg kf (nI j) = false := by unfold lvg; rw [ej, hx, decide_eq_false (not_not_intro h4)]; rfl
      have hw : whyDead kf (nI j) p b = nI 3 := by unfold whyDead; rw [hv, if_neg (by decide)]
      obtain ⟨e1, e2, e3⟩ := rf_no (kf := kf) (w := nI 3) (by decide)
      unfold deadK
      rw [hw, e1, e2, e3]
      exact EvC.ex (t5_dead3e hC hj h4) ⟨rfl, PM.ref hC hS hH _⟩
    · have hv : lvg kf (nI j) = true := by unfold lvg; rw [ej, hx, decide_eq_true h4]; rfl
      by_cases hd : isDue kf j = true
      · by_cases hg : inI p (nI 1) (nI 1000) = true ∧ inI b (nI 0) p = true
        · have hw : whyDead kf (nI j) p b = nI 0 := by unfold whyDead; rw [hv, if_pos rfl, ej, if_pos hd, hg.1, hg.2, if_pos (by decide)]
          obtain ⟨g1, g2⟩ := hg
          obtain ⟨p1, hp1, hp, rfl⟩ := inI_n (by decide) (by decide) g1
          obtain ⟨b1, -, hb, rfl⟩ := inI_n (by decide) (by omega) g2
          by_cases h9 : s = 1000
          · skip
            obtain ⟨e1, e2, e3⟩ := rf_full (kf := kf) (by rw [h6, h9])
            unfold deadK
            rw [hw, e1, e2, e3]
            exact EvC.ex (t5_dead5 hC hj h4 hd hp1 hp hb h9) ⟨rfl, PM.ref hC hS hH _⟩
          · skip
            obtain ⟨e1, e2, e3⟩ := rf_ok h6 (by omega)
            unfold deadK
            rw [hw, e1, e2, e3]
            refine (t5_dead6 hC hS hH (by omega) hj h4 hd hp1 hp hb).mono (fun r m' h => ?_)
            rw [if_neg (by decide), ej]
            exact h
        · have hw : whyDead kf (nI j) p b = nI 1 := by unfold whyDead; rw [hv, if_pos rfl, ej, if_pos hd, if_neg (fun q => hg (by rw [Bool.and_eq_true] at q; exact q))]
          obtain ⟨e1, e2, e3⟩ := rf_no (kf := kf) (w := nI 1) (by decide)
          unfold deadK
          rw [hw, e1, e2, e3]
          exact EvC.ex (t5_dead1 hC hj h4 hd hg) ⟨rfl, PM.ref hC hS hH _⟩
      · rw [Bool.not_eq_true] at hd
        have hw : whyDead kf (nI j) p b = nI 4 := by unfold whyDead; rw [hv, if_pos rfl, ej, if_neg (by rw [hd]; decide)]
        obtain ⟨e1, e2, e3⟩ := rf_no (kf := kf) (w := nI 4) (by decide)
        unfold deadK
        rw [hw, e1, e2, e3]
        exact EvC.ex (t5_dead4 hC hj h4 hd) ⟨rfl, PM.ref hC hS hH _⟩
  · rw [Bool.not_eq_true] at hx
    have hv : lvg kf t = false := by unfold lvg; rw [hx]; rfl
    have hw : whyDead kf t p b = nI 3 := by unfold whyDead; rw [hv, if_neg (by decide)]
    obtain ⟨e1, e2, e3⟩ := rf_no (kf := kf) (w := nI 3) (by decide)
    unfold deadK
    rw [hw, e1, e2, e3]
    exact EvC.ex (t5_dead3 hC hx) ⟨rfl, PM.ref hC hS hH _⟩

end Class31
