/-! the reference: tick, run -/
section Model15
variable {G : GG} {m : Mem} {X : XX} {kf : KF} {vf : VF} {lf : Nat → Int32}
set_option maxRecDepth 100000 in
set_option maxHeartbeats 4000000 in
theorem m_tick (hX : MW m X) {n c : Nat} (hW : WF kf n) (hr : kf 3 = nI c) (hc : c + 4 ≤ 8000) : Ev G 10 uX6_tick [.ref X.1] (MM m X (kf, vf, lf)) none (MM m X ((tcF kf vf lf).1, (tcF kf vf lf).2.1, (tcF kf vf lf).2.2)) := by
  have hn2 := hW.1.2
  obtain ⟨P, hP1, hP4, hP⟩ := hW.2.2.2.2.2.2.2.2
  have hC0 := tc_ci (lf := lf) hW hP hr
  have hCI : CI n c P 4 (tc1 kf vf lf) := by
    rw [tc1, hP, nI_clamp (show P < 2 ^ 31 by omega)]
    exact (hC0.all (by omega) P hP4).up hP4
  refine Ev.of (by decide +kernel) (Nat.le_of_ble_eq_true rfl) ?_
  have L4 : ∀ (k i : Nat) (K : KF) (V : VF), i + k = P → (K, V) = lp tuS i ((tc1 kf vf lf).1, vf) → EvB G 10 uX6_tick (zz (MM m X (kf, vf, lf))) (nn (MM m X (kf, vf, lf))) none (MM m X ((tcF kf vf lf).1, (tcF kf vf lf).2.1, (tcF kf vf lf).2.2)) 74 [(1, .int (nI i)), (0, .ref X.1)] [] (MM m X (K, V, (tc1 kf vf lf).2)) := by
    intro k
    induction k with
    | zero =>
      intro i K V hi hK
      have hU := UI.all (vf := vf) (k0 := (tc1 kf vf lf).1) (lf := (tc1 kf vf lf).2) hCI i (by omega)
      rw [← hK] at hU
      refine e_iload_n 0 dX6_tick_74 rfl ?_
      refine e_aload_n 1 dX6_tick_75 rfl ?_
      refine e_mk hX dX6_tick_76 fl_X6_8 ?_
      refine e_ic (nI 2) dX6_tick_79 (by decide) ?_
      refine e_kld hX dX6_tick_80 (by omega) (e_iv (w := nI P) (hU.2.1) ?_)
      refine e_icmp_geN 115 dX6_tick_81 (by decide) (by omega) (by omega) (fun _ => ?_) (fun h => absurd h (by omega))
      refine e_aload_n 1 dX6_tick_115 rfl ?_
      refine e_mk hX dX6_tick_116 fl_X6_8 ?_
      refine e_ic (nI 0) dX6_tick_119 (by decide) ?_
      refine e_dup2 dX6_tick_120 rfl rfl ?_
      refine e_kld hX dX6_tick_121 (by omega) ?_
      refine e_ic (nI 1) dX6_tick_122 (by decide) ?_
      refine e_iadd dX6_tick_123 ?_
      refine e_kst hX dX6_tick_124 (by omega) ?_
      exact e_retV dX6_tick_125 rfl rfl (by rw [tcF, tc2, hP, nI_clamp (show P < 2 ^ 31 by omega), ← show i = P by omega, ← hK])
    | succ k ih =>
      intro i K V hi hK
      have hU := UI.all (vf := vf) (k0 := (tc1 kf vf lf).1) (lf := (tc1 kf vf lf).2) hCI i (by omega)
      rw [← hK] at hU
      refine e_iload_n 0 dX6_tick_74 rfl ?_
      refine e_aload_n 1 dX6_tick_75 rfl ?_
      refine e_mk hX dX6_tick_76 fl_X6_8 ?_
      refine e_ic (nI 2) dX6_tick_79 (by decide) ?_
      refine e_kld hX dX6_tick_80 (by omega) (e_iv (w := nI P) (hU.2.1) ?_)
      refine e_icmp_geN 115 dX6_tick_81 (by decide) (by omega) (by omega) (fun h => absurd h (by omega)) (fun _ => ?_)
      refine e_aload_n 1 dX6_tick_84 rfl ?_
      refine e_mk hX dX6_tick_85 fl_X6_8 ?_
      refine e_bipush (v := nI 7) dX6_tick_88 (by decide) ?_
      refine e_iload_n 0 dX6_tick_90 rfl ?_
      refine e_iaddN dX6_tick_91 ?_
      refine e_kld hX dX6_tick_92 (by omega) ?_
      refine e_if_lt 109 dX6_tick_93 (by decide) (fun h93 => ?_) (fun h93 => ?_)
      · skip
        have h93' := Int32.not_le.mpr h93
        refine e_iinc1N (lv' := [(1, .int (nI (i + 1))), (0, .ref X.1)]) 0 dX6_tick_109 rfl (by decide) rfl ?_
        refine e_goto 74 dX6_tick_112 (by decide) ?_
        refine e_sub [0, 1] rfl ?_
        exact ih (i + 1) K V (by omega) (by show _ = tuS i (lp tuS i ((tc1 kf vf lf).1, vf)); rw [← hK, tuS, if_pos h93])
      · skip
        have h93' := Int32.not_lt.mp h93
        obtain ⟨b, hb, eb0⟩ : ∃ b, b < n ∧ (tc1 kf vf lf).1 (7 + i) = nI b := by
            rcases hCI.2.2.2 i (by omega) with z | ⟨-, b, hb, z, -⟩
            · exact absurd (by rw [show K (7 + i) = (tc1 kf vf lf).1 (7 + i) from (hU.2.2.2.2 i (by omega)).1, z]; decide) h93
            · exact ⟨b, hb, z⟩
        have eb : K (7 + i) = nI b := (hU.2.2.2.2 i (by omega)).1.trans eb0
        have hb6 : kg K b 6 = 0 := (hU.2.2.2.2 i (by omega)).2 (Nat.le_refl _) b hb eb0
        obtain ⟨n2, hn2b, hW2⟩ := hU.1
        refine e_aload_n 1 dX6_tick_96 rfl ?_
        refine e_aload_n 1 dX6_tick_97 rfl ?_
        refine e_mk hX dX6_tick_98 fl_X6_8 ?_
        refine e_bipush (v := nI 7) dX6_tick_101 (by decide) ?_
        refine e_iload_n 0 dX6_tick_103 rfl ?_
        refine e_iaddN dX6_tick_104 ?_
        refine e_kld hX dX6_tick_105 (by omega) (e_iv (w := nI b) (eb) ?_)
        refine e_callV (ci := 6) (st := []) (st1 := []) (As := [.int (nI b)]) (m_turn hX hW2 (show b < n2 by omega) hb6) dX6_tick_106 (by decide) cm_X6_turn lk_X6_148 im_X6_turn rfl sel_X6_turn hX.1 rfl rfl (Nat.le_of_ble_eq_true rfl) rfl ?_
        refine e_iinc1N (lv' := [(1, .int (nI (i + 1))), (0, .ref X.1)]) 0 dX6_tick_109 rfl (by decide) rfl ?_
        refine e_goto 74 dX6_tick_112 (by decide) ?_
        refine e_sub [0, 1] rfl ?_
        exact ih (i + 1) (tnF K V b).1 (tnF K V b).2 (by omega) (by show _ = tuS i (lp tuS i ((tc1 kf vf lf).1, vf)); rw [← hK, tuS, if_neg h93]; dsimp only; rw [eb, nI_clamp (show b < 2 ^ 31 by omega)])
  have L3 : ∀ (k i : Nat) (K : KF) (L : Nat → Int32), i + k = P → (K, L) = lp (chS vf) i (c4 (wkF kf), lt0 lf) → EvB G 10 uX6_tick (zz (MM m X (kf, vf, lf))) (nn (MM m X (kf, vf, lf))) none (MM m X ((tcF kf vf lf).1, (tcF kf vf lf).2.1, (tcF kf vf lf).2.2)) 51 [(1, .int (nI i)), (0, .ref X.1)] [] (MM m X (K, vf, L)) := by
    intro k
    induction k with
    | zero =>
      intro i K L hi hK
      have hU := hC0.all (vf := vf) (by omega) i (by omega)
      rw [← hK] at hU
      refine e_iload_n 0 dX6_tick_51 rfl ?_
      refine e_aload_n 1 dX6_tick_52 rfl ?_
      refine e_mk hX dX6_tick_53 fl_X6_8 ?_
      refine e_ic (nI 2) dX6_tick_56 (by decide) ?_
      refine e_kld hX dX6_tick_57 (by omega) (e_iv (w := nI P) (hU.2.1) ?_)
      refine e_icmp_geN 72 dX6_tick_58 (by decide) (by omega) (by omega) (fun _ => ?_) (fun h => absurd h (by omega))
      refine e_ic (nI 0) dX6_tick_72 (by decide) ?_
      refine e_istore_n (lv' := [(1, .int (nI 0)), (0, .ref X.1)]) dX6_tick_73 (by decide) rfl ?_
      refine e_sub [0, 1] rfl ?_
      have e1 : tc1 kf vf lf = (K, L) := by rw [tc1, hP, nI_clamp (show P < 2 ^ 31 by omega), ← show i = P by omega, ← hK]
      have e2 : K = (tc1 kf vf lf).1 := by rw [e1]
      have e3 : L = (tc1 kf vf lf).2 := by rw [e1]
      rw [e2, e3]
      exact L4 P 0 _ vf (by omega) rfl
    | succ k ih =>
      intro i K L hi hK
      have hU := hC0.all (vf := vf) (by omega) i (by omega)
      rw [← hK] at hU
      obtain ⟨c2, hc2, h3⟩ := hU.2.2.1
      dsimp only at h3
      refine e_iload_n 0 dX6_tick_51 rfl ?_
      refine e_aload_n 1 dX6_tick_52 rfl ?_
      refine e_mk hX dX6_tick_53 fl_X6_8 ?_
      refine e_ic (nI 2) dX6_tick_56 (by decide) ?_
      refine e_kld hX dX6_tick_57 (by omega) (e_iv (w := nI P) (hU.2.1) ?_)
      refine e_icmp_geN 72 dX6_tick_58 (by decide) (by omega) (by omega) (fun h => absurd h (by omega)) (fun _ => ?_)
      refine e_aload_n 1 dX6_tick_61 rfl ?_
      refine e_iload_n 0 dX6_tick_62 rfl ?_
      refine e_callV (ci := 6) (st := []) (st1 := []) (As := [.int (nI i)]) (m_chooses hX (n := n) (c := c2) (by omega) hU.1.1.1 hn2 hU.1.ch h3 (by omega)) dX6_tick_63 (by decide) cm_X6_chooses lk_X6_145 im_X6_chooses rfl sel_X6_chooses hX.1 rfl rfl (Nat.le_of_ble_eq_true rfl) rfl ?_
      refine e_iinc1N (lv' := [(1, .int (nI (i + 1))), (0, .ref X.1)]) 0 dX6_tick_66 rfl (by decide) rfl ?_
      refine e_goto 51 dX6_tick_69 (by decide) ?_
      refine e_sub [0, 1] rfl ?_
      exact ih (i + 1) (chF K vf L i).1 (chF K vf L i).2 (by omega) (by show _ = chS vf i (lp (chS vf) i (c4 (wkF kf), lt0 lf)); rw [← hK]; rfl)
  have L1 : ∀ (k i : Nat) (L : Nat → Int32), i + k = 200 → L = lp (fun t l => upd l t (nI 0)) i lf → EvB G 10 uX6_tick (zz (MM m X (kf, vf, lf))) (nn (MM m X (kf, vf, lf))) none (MM m X ((tcF kf vf lf).1, (tcF kf vf lf).2.1, (tcF kf vf lf).2.2)) 6 [(1, .int (nI i)), (0, .ref X.1)] [] (MM m X (wkF kf, vf, L)) := by
    intro k
    induction k with
    | zero =>
      intro i L hi hK
      refine e_iload_n 0 dX6_tick_6 rfl ?_
      refine e_sipush (v := nI 200) dX6_tick_7 (by decide) ?_
      refine e_icmp_geN 26 dX6_tick_10 (by decide) (by omega) (by omega) (fun _ => ?_) (fun h => absurd h (by omega))
      refine e_ic (nI 0) dX6_tick_26 (by decide) ?_
      refine e_istore_n (lv' := [(1, .int (nI 0)), (0, .ref X.1)]) dX6_tick_27 (by decide) rfl ?_
      refine e_iload_n 0 dX6_tick_28 rfl ?_
      refine e_ic (nI 4) dX6_tick_29 (by decide) ?_
      refine e_icmp_geN 49 dX6_tick_30 (by decide) (by omega) (by omega) (fun h => absurd h (by decide)) (fun _ => ?_)
      refine e_aload_n 1 dX6_tick_33 rfl ?_
      refine e_mk hX dX6_tick_34 fl_X6_8 ?_
      refine e_bipush (v := nI 7) dX6_tick_37 (by decide) ?_
      refine e_iload_n 0 dX6_tick_39 rfl ?_
      refine e_iaddN dX6_tick_40 ?_
      refine e_ic ((-1)) dX6_tick_41 (by decide) ?_
      refine e_kst hX dX6_tick_42 (by omega) ?_
      refine e_iinc1N (lv' := [(1, .int (nI 1)), (0, .ref X.1)]) 0 dX6_tick_43 rfl (by decide) rfl ?_
      refine e_goto 28 dX6_tick_46 (by decide) ?_
      refine e_iload_n 0 dX6_tick_28 rfl ?_
      refine e_ic (nI 4) dX6_tick_29 (by decide) ?_
      refine e_icmp_geN 49 dX6_tick_30 (by decide) (by omega) (by omega) (fun h => absurd h (by decide)) (fun _ => ?_)
      refine e_aload_n 1 dX6_tick_33 rfl ?_
      refine e_mk hX dX6_tick_34 fl_X6_8 ?_
      refine e_bipush (v := nI 7) dX6_tick_37 (by decide) ?_
      refine e_iload_n 0 dX6_tick_39 rfl ?_
      refine e_iaddN dX6_tick_40 ?_
      refine e_ic ((-1)) dX6_tick_41 (by decide) ?_
      refine e_kst hX dX6_tick_42 (by omega) ?_
      refine e_iinc1N (lv' := [(1, .int (nI 2)), (0, .ref X.1)]) 0 dX6_tick_43 rfl (by decide) rfl ?_
      refine e_goto 28 dX6_tick_46 (by decide) ?_
      refine e_iload_n 0 dX6_tick_28 rfl ?_
      refine e_ic (nI 4) dX6_tick_29 (by decide) ?_
      refine e_icmp_geN 49 dX6_tick_30 (by decide) (by omega) (by omega) (fun h => absurd h (by decide)) (fun _ => ?_)
      refine e_aload_n 1 dX6_tick_33 rfl ?_
      refine e_mk hX dX6_tick_34 fl_X6_8 ?_
      refine e_bipush (v := nI 7) dX6_tick_37 (by decide) ?_
      refine e_iload_n 0 dX6_tick_39 rfl ?_
      refine e_iaddN dX6_tick_40 ?_
      refine e_ic ((-1)) dX6_tick_41 (by decide) ?_
      refine e_kst hX dX6_tick_42 (by omega) ?_
      refine e_iinc1N (lv' := [(1, .int (nI 3)), (0, .ref X.1)]) 0 dX6_tick_43 rfl (by decide) rfl ?_
      refine e_goto 28 dX6_tick_46 (by decide) ?_
      refine e_iload_n 0 dX6_tick_28 rfl ?_
      refine e_ic (nI 4) dX6_tick_29 (by decide) ?_
      refine e_icmp_geN 49 dX6_tick_30 (by decide) (by omega) (by omega) (fun h => absurd h (by decide)) (fun _ => ?_)
      refine e_aload_n 1 dX6_tick_33 rfl ?_
      refine e_mk hX dX6_tick_34 fl_X6_8 ?_
      refine e_bipush (v := nI 7) dX6_tick_37 (by decide) ?_
      refine e_iload_n 0 dX6_tick_39 rfl ?_
      refine e_iaddN dX6_tick_40 ?_
      refine e_ic ((-1)) dX6_tick_41 (by decide) ?_
      refine e_kst hX dX6_tick_42 (by omega) ?_
      refine e_iinc1N (lv' := [(1, .int (nI 4)), (0, .ref X.1)]) 0 dX6_tick_43 rfl (by decide) rfl ?_
      refine e_goto 28 dX6_tick_46 (by decide) ?_
      refine e_iload_n 0 dX6_tick_28 rfl ?_
      refine e_ic (nI 4) dX6_tick_29 (by decide) ?_
      refine e_icmp_geN 49 dX6_tick_30 (by decide) (by omega) (by omega) (fun _ => ?_) (fun h => absurd h (by decide))
      refine e_ic (nI 0) dX6_tick_49 (by decide) ?_
      refine e_istore_n (lv' := [(1, .int (nI 0)), (0, .ref X.1)]) dX6_tick_50 (by decide) rfl ?_
      refine e_sub [0, 1] rfl ?_
      have e1 : L = lt0 lf := by rw [hK, show i = 200 by omega]; rfl
      rw [e1]
      exact L3 P 0 _ _ (by omega) rfl
    | succ k ih =>
      intro i L hi hK
      refine e_iload_n 0 dX6_tick_6 rfl ?_
      refine e_sipush (v := nI 200) dX6_tick_7 (by decide) ?_
      refine e_icmp_geN 26 dX6_tick_10 (by decide) (by omega) (by omega) (fun h => absurd h (by omega)) (fun _ => ?_)
      refine e_aload_n 1 dX6_tick_13 rfl ?_
      refine e_ml hX dX6_tick_14 fl_X6_28 ?_
      refine e_iload_n 0 dX6_tick_17 rfl ?_
      refine e_ic (nI 0) dX6_tick_18 (by decide) ?_
      refine e_lst hX dX6_tick_19 rfl (by omega) ?_
      refine e_iinc1N (lv' := [(1, .int (nI (i + 1))), (0, .ref X.1)]) 0 dX6_tick_20 rfl (by decide) rfl ?_
      refine e_goto 6 dX6_tick_23 (by decide) ?_
      refine e_sub [0, 1] rfl ?_
      exact ih (i + 1) _ (by omega) (by rw [hK]; rfl)
  refine e_lvs (lv' := [(0, .ref X.1)]) rfl ?_
  refine e_aload_n 0 dX6_tick_0 rfl ?_
  refine e_callV (ci := 6) (st := []) (st1 := []) (As := []) (m_wakes hX hW) dX6_tick_1 (by decide) cm_X6_wakes lk_X6_142 im_X6_wakes rfl sel_X6_wakes hX.1 rfl rfl (Nat.le_of_ble_eq_true rfl) rfl ?_
  refine e_ic (nI 0) dX6_tick_4 (by decide) ?_
  refine e_istore_n (lv' := [(1, .int (nI 0)), (0, .ref X.1)]) dX6_tick_5 (by decide) rfl ?_
  refine e_sub [0, 1] rfl ?_
  exact L1 200 0 lf (by omega) rfl
set_option maxRecDepth 100000 in
set_option maxHeartbeats 4000000 in
theorem m_runL (hX : MW m X) {j z0 n0 : Nat} {r : Option Value} {mF : Mem} (hj : j ≤ 1000) : ∀ (k d : Nat) (kf : KF) (vf : VF) (lf : Nat → Int32) (n : Nat), WF kf n → d + k = j → (MM m X ((rnL k (kf, vf, lf) d).1.1, (rnL k (kf, vf, lf) d).1.2.1, (rnL k (kf, vf, lf) d).1.2.2) = mF ∧ r = some (.int (nI (rnL k (kf, vf, lf) d).2))) → EvB G 11 uX6_run z0 n0 r mF 28 [(2, .int (nI d)), (0, .ref X.1), (1, .int (nI j))] [] (MM m X (kf, vf, lf)) := by
  intro k
  induction k with
  | zero =>
    intro d kf vf lf n hW hd hM
    obtain ⟨c, hc, hr⟩ := hW.2.2.2.2.2.2.2.1
    refine e_iload_n 0 dX6_run_28 rfl ?_
    refine e_iload_n 2 dX6_run_29 rfl ?_
    refine e_icmp_geN 57 dX6_run_30 (by decide) (by omega) (by omega) (fun _ => ?_) (fun h => absurd h (by omega))
    refine e_iload_n 0 dX6_run_57 rfl ?_
    exact e_retI dX6_run_58 rfl rfl hM.2 hM.1
  | succ k ih =>
    intro d kf vf lf n hW hd hM
    obtain ⟨c, hc, hr⟩ := hW.2.2.2.2.2.2.2.1
    refine e_iload_n 0 dX6_run_28 rfl ?_
    refine e_iload_n 2 dX6_run_29 rfl ?_
    refine e_icmp_geN 57 dX6_run_30 (by decide) (by omega) (by omega) (fun h => absurd h (by omega)) (fun _ => ?_)
    refine e_sipush (v := nI 8000) dX6_run_33 (by decide) ?_
    refine e_aload_n 1 dX6_run_36 rfl ?_
    refine e_mk hX dX6_run_37 fl_X6_8 ?_
    refine e_ic (nI 3) dX6_run_40 (by decide) ?_
    refine e_kld hX dX6_run_41 (by omega) (e_iv (w := nI c) hr ?_)
    refine e_isubN dX6_run_42 (by omega) ?_
    refine e_ic (nI 4) dX6_run_43 (by decide) ?_
    refine e_icmp_ltN 57 dX6_run_44 (by decide) (by omega) (by omega) (fun h44 => ?_) (fun h44 => ?_)
    · skip
      have h44' := Nat.not_le.mpr h44
      refine e_iload_n 0 dX6_run_57 rfl ?_
      have hm := mm_rn hM (rn_f (s := (kf, vf, lf)) (by dsimp only; rw [hr, nI_clamp (show c < 2 ^ 31 by omega)]; omega))
      dsimp only at hm
      exact e_retI dX6_run_58 rfl rfl hm.2 hm.1
    · skip
      have h44' := Nat.not_lt.mpr h44
      refine e_aload_n 1 dX6_run_47 rfl ?_
      refine e_callV (ci := 6) (st := []) (st1 := []) (As := []) (m_tick hX hW hr (by omega)) dX6_run_48 (by decide) cm_X6_tick lk_X6_167 im_X6_tick rfl sel_X6_tick hX.1 rfl rfl (Nat.le_of_ble_eq_true rfl) rfl ?_
      refine e_iinc1N (lv' := [(2, .int (nI (d + 1))), (0, .ref X.1), (1, .int (nI j))]) 0 dX6_run_51 rfl (by decide) rfl ?_
      refine e_goto 28 dX6_run_54 (by decide) ?_
      refine e_sub (lv' := [(2, .int (nI (d + 1))), (0, .ref X.1), (1, .int (nI j))]) [0, 1, 2] rfl ?_
      obtain ⟨n2, hn2b, hW2⟩ := wf_tc (vf := vf) (lf := lf) hW hr (by omega)
      have hm := mm_rn hM (rn_t (s := (kf, vf, lf)) (by dsimp only; rw [hr, nI_clamp (show c < 2 ^ 31 by omega)]; omega))
      dsimp only at hm
      exact ih (d + 1) (tcF kf vf lf).1 (tcF kf vf lf).2.1 (tcF kf vf lf).2.2 n2 hW2 (by omega) hm
set_option maxRecDepth 100000 in
set_option maxHeartbeats 4000000 in
theorem m_run (hX : MW m X) {n : Nat} {q : Int32} (hW : WF kf n) : Ev G 11 uX6_run [.ref X.1, .int q] (MM m X (kf, vf, lf)) (some (.int (runR kf vf lf q))) (MM (sI m 125 X.1 (rfs kf (whyRun q))) X ((runS kf vf lf q).1, (runS kf vf lf q).2.1, (runS kf vf lf q).2.2)) := by
  refine Ev.of (by decide +kernel) (Nat.le_of_ble_eq_true rfl) ?_
  refine e_lvs (lv' := [(0, .ref X.1), (1, .int q)]) rfl ?_
  refine e_aload_n 0 dX6_run_0 rfl ?_
  refine e_iload_n 1 dX6_run_1 rfl ?_
  refine e_i2l dX6_run_2 ?_
  refine e_lconst (v := lN 0) dX6_run_3 (by decide) ?_
  refine e_ldc2 dX6_run_4 cs_X6_156 ?_
  refine e_lv (w := lN 1000) (by decide) ?_
  refine e_callS (st := [.ref X.1]) (st1 := [.int (bI (inI q (nI 0) (nI 1000))), .ref X.1]) (As := [.long q.toInt64, .long (lN 0), .long (lN 1000)]) (m_isInI (x := q) (lo := (nI 0)) (hi := (nI 1000)) rfl ((nI_l (by omega)).symm) ((nI_l (by omega)).symm) _) dX6_run_7 (by decide) cm_X6_isIn lk_X6_32 sm_X6_isIn rfl rfl (Nat.le_of_ble_eq_true rfl) rfl ?_
  refine e_if_eqB 17 dX6_run_10 (by decide) (fun h1 => ?_) (fun h1 => ?_)
  · skip
    refine e_ic (nI 1) dX6_run_17 (by decide) ?_
    refine e_callV (ci := 6) (st := []) (st1 := [.int (bI (rfB kf (nI 1)))]) (As := [.int (nI 1)]) (m_isRefused hX) dX6_run_18 (by decide) cm_X6_isRefused lk_X6_153 im_X6_isRefused rfl sel_X6_isRefused hX.1 rfl rfl (Nat.le_of_ble_eq_true rfl) rfl ?_
    have hB : rfB kf (nI 1) = true := rfB_pos (by decide)
    have hX := MW.s (f := 125) (a := X.1) (x := rfs kf (nI 1)) hX
    have e : whyRun q = nI 1 := by simp [whyRun, h1]
    refine e_if_eqB 26 dX6_run_21 (by decide) (fun h => absurd h (by rw [hB]; decide)) (fun _ => ?_)
    refine e_ic ((-1)) dX6_run_24 (by decide) ?_
    exact e_retI dX6_run_25 rfl rfl (by rw [runR, e, if_pos hB]) (by rw [runS, e, if_pos hB])
  · skip
    obtain ⟨j, hj0, hj, rfl⟩ := inI_n (by decide) (by decide) h1
    have cj : (nI j).toNatClampNeg = j := nI_clamp (by omega)
    refine e_ic (nI 0) dX6_run_13 (by decide) ?_
    refine e_goto 18 dX6_run_14 (by decide) ?_
    refine e_callV (ci := 6) (st := []) (st1 := [.int (bI (rfB kf (nI 0)))]) (As := [.int (nI 0)]) (m_isRefused hX) dX6_run_18 (by decide) cm_X6_isRefused lk_X6_153 im_X6_isRefused rfl sel_X6_isRefused hX.1 rfl rfl (Nat.le_of_ble_eq_true rfl) rfl ?_
    have hX := MW.s (f := 125) (a := X.1) (x := rfs kf (nI 0)) hX
    have e : whyRun (nI j) = nI 0 := by simp [whyRun, h1, cj]
    refine e_if_eqB 26 dX6_run_21 (by decide) (fun hB => ?_) (fun hB => ?_)
    · skip
      refine e_ic (nI 0) dX6_run_26 (by decide) ?_
      refine e_istore_n (lv' := [(2, .int (nI 0)), (0, .ref X.1), (1, .int (nI j))]) dX6_run_27 (by decide) rfl ?_
      refine e_sub [0, 1, 2] rfl ?_
      refine m_runL hX (by omega) j 0 _ _ _ n (wf_rfK hW) (by omega) ⟨?_, ?_⟩
      · rw [runS, e, if_neg (by rw [hB]; decide), runF, e, cj]
      · rw [runR, e, if_neg (by rw [hB]; decide), runF, e, cj]
    · skip
      refine e_ic ((-1)) dX6_run_24 (by decide) ?_
      exact e_retI dX6_run_25 rfl rfl (by rw [runR, e, if_pos hB]) (by rw [runS, e, if_pos hB])
end Model15
