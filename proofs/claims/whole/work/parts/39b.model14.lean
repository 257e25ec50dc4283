/-! the reference: wakes, puts, chooses -/
section Model14
variable {G : GG} {m : Mem} {X : XX} {kf : KF} {vf : VF} {lf : Nat → Int32}
set_option maxRecDepth 100000 in
set_option maxHeartbeats 4000000 in
theorem m_wakes (hX : MW m X) {n : Nat} (hW : WF kf n) : Ev G 2 uX6_wakes [.ref X.1] (MM m X (kf, vf, lf)) none (MM m X (wkF kf, vf, lf)) := by
  have hn2 := hW.1.2
  refine Ev.of (by decide +kernel) (Nat.le_of_ble_eq_true rfl) ?_
  have L : ∀ (k i : Nat) (K : KF), i + k = n → K = lp (wkS (kf 0)) i kf → EvB G 2 uX6_wakes (zz (MM m X (kf, vf, lf))) (nn (MM m X (kf, vf, lf))) none (MM m X (wkF kf, vf, lf)) 9 [(2, .int (nI i)), (1, .int (kf (0))), (0, .ref X.1)] [] (MM m X (K, vf, lf)) := by
    intro k
    induction k with
    | zero =>
      intro i K hi hK
      have hI : WF K n := hK ▸ wf_wk hW i (by omega)
      refine e_iload_n 0 dX6_wakes_9 rfl ?_
      refine e_aload_n 2 dX6_wakes_10 rfl ?_
      refine e_mk hX dX6_wakes_11 fl_X6_8 ?_
      refine e_ic (nI 1) dX6_wakes_14 (by decide) ?_
      refine e_kld hX dX6_wakes_15 (by omega) (e_iv (w := nI n) (hI.1.1) ?_)
      refine e_icmp_geN 124 dX6_wakes_16 (by decide) (by omega) (by omega) (fun _ => ?_) (fun h => absurd h (by omega))
      exact e_retV dX6_wakes_124 rfl rfl (by rw [hK, wkF, hW.nt, ← show i = n by omega])
    | succ k ih =>
      intro i K hi hK
      have hI : WF K n := hK ▸ wf_wk hW i (by omega)
      refine e_iload_n 0 dX6_wakes_9 rfl ?_
      refine e_aload_n 2 dX6_wakes_10 rfl ?_
      refine e_mk hX dX6_wakes_11 fl_X6_8 ?_
      refine e_ic (nI 1) dX6_wakes_14 (by decide) ?_
      refine e_kld hX dX6_wakes_15 (by omega) (e_iv (w := nI n) (hI.1.1) ?_)
      refine e_icmp_geN 124 dX6_wakes_16 (by decide) (by omega) (by omega) (fun h => absurd h (by omega)) (fun _ => ?_)
      refine e_aload_n 2 dX6_wakes_19 rfl ?_
      refine e_iload_n 0 dX6_wakes_20 rfl ?_
      refine e_bipush (v := nI 6) dX6_wakes_21 (by decide) ?_
      refine e_callV (ci := 6) (st := []) (st1 := [.int (kg K i 6)]) (As := [.int (nI i), .int (nI 6)]) (m_get hX (kg_lt (by omega) (by omega))) dX6_wakes_23 (by decide) cm_X6_get lk_X6_36 im_X6_get rfl sel_X6_get hX.1 rfl rfl (Nat.le_of_ble_eq_true rfl) rfl ?_
      refine e_ic (nI 4) dX6_wakes_26 (by decide) ?_
      refine e_iv (w := 4) rfl ?_
      refine e_icmp_ne 33 dX6_wakes_27 (by decide) (fun a1 => ?_) (fun a1 => ?_)
      · skip
        refine e_aload_n 2 dX6_wakes_33 rfl ?_
        refine e_iload_n 0 dX6_wakes_34 rfl ?_
        refine e_bipush (v := nI 6) dX6_wakes_35 (by decide) ?_
        refine e_callV (ci := 6) (st := []) (st1 := [.int (kg K i 6)]) (As := [.int (nI i), .int (nI 6)]) (m_get hX (kg_lt (by omega) (by omega))) dX6_wakes_37 (by decide) cm_X6_get lk_X6_36 im_X6_get rfl sel_X6_get hX.1 rfl rfl (Nat.le_of_ble_eq_true rfl) rfl ?_
        refine e_ic (nI 3) dX6_wakes_40 (by decide) ?_
        refine e_iv (w := 3) rfl ?_
        refine e_icmp_ne 60 dX6_wakes_41 (by decide) (fun a2 => ?_) (fun a2 => ?_)
        · skip
          refine e_aload_n 2 dX6_wakes_60 rfl ?_
          refine e_iload_n 0 dX6_wakes_61 rfl ?_
          refine e_callV (ci := 6) (st := []) (st1 := [.int (bI (isDue K i))]) (As := [.int (nI i)]) (m_isDue hX (by omega)) dX6_wakes_62 (by decide) cm_X6_isDue lk_X6_43 im_X6_isDue rfl sel_X6_isDue hX.1 rfl rfl (Nat.le_of_ble_eq_true rfl) rfl ?_
          refine e_if_eqB 118 dX6_wakes_65 (by decide) (fun a4 => ?_) (fun a4 => ?_)
          · skip
            refine e_iinc1N (lv' := [(2, .int (nI (i + 1))), (1, .int (kf (0))), (0, .ref X.1)]) 0 dX6_wakes_118 rfl (by decide) rfl ?_
            refine e_goto 9 dX6_wakes_121 (by decide) ?_
            refine e_sub [0, 1, 2] rfl ?_
            exact ih (i + 1) K (by omega) (by show _ = wkS (kf 0) i (lp (wkS (kf 0)) i kf); rw [← hK]; rw [wkS, if_neg a1, wk1, if_neg (fun z => a2 z.1), wk2, if_neg (fun z => by rw [a4] at z; exact absurd z.1 (by decide))])
          · skip
            refine e_aload_n 2 dX6_wakes_68 rfl ?_
            refine e_iload_n 0 dX6_wakes_69 rfl ?_
            refine e_bipush (v := nI 12) dX6_wakes_70 (by decide) ?_
            refine e_callV (ci := 6) (st := []) (st1 := [.int (kg K i 12)]) (As := [.int (nI i), .int (nI 12)]) (m_get hX (kg_lt (by omega) (by omega))) dX6_wakes_72 (by decide) cm_X6_get lk_X6_36 im_X6_get rfl sel_X6_get hX.1 rfl rfl (Nat.le_of_ble_eq_true rfl) rfl ?_
            refine e_iload_n 1 dX6_wakes_75 rfl ?_
            refine e_icmp_eq 82 dX6_wakes_76 (by decide) (fun a5 => ?_) (fun a5 => ?_)
            · skip
              refine e_aload_n 2 dX6_wakes_82 rfl ?_
              refine e_iload_n 0 dX6_wakes_83 rfl ?_
              refine e_bipush (v := nI 12) dX6_wakes_84 (by decide) ?_
              refine e_iload_n 1 dX6_wakes_86 rfl ?_
              refine e_aload_n 2 dX6_wakes_87 rfl ?_
              refine e_iload_n 0 dX6_wakes_88 rfl ?_
              refine e_bipush (v := nI 10) dX6_wakes_89 (by decide) ?_
              refine e_callV (ci := 6) (st := [.int (kf (0)), .int (nI 12), .int (nI i), .ref X.1]) (st1 := [.int (kg K i 10), .int (kf (0)), .int (nI 12), .int (nI i), .ref X.1]) (As := [.int (nI i), .int (nI 10)]) (m_get hX (kg_lt (by omega) (by omega))) dX6_wakes_91 (by decide) cm_X6_get lk_X6_36 im_X6_get rfl sel_X6_get hX.1 rfl rfl (Nat.le_of_ble_eq_true rfl) rfl ?_
              refine e_iadd dX6_wakes_94 ?_
              refine e_callV (ci := 6) (st := []) (st1 := []) (As := [.int (nI i), .int (nI 12), .int ((kf (0)) + (kg K i 10))]) (m_set hX (kg_lt (by omega) (by decide))) dX6_wakes_95 (by decide) cm_X6_set lk_X6_59 im_X6_set rfl sel_X6_set hX.1 rfl rfl (Nat.le_of_ble_eq_true rfl) rfl ?_
              refine e_aload_n 2 dX6_wakes_98 rfl ?_
              refine e_iload_n 0 dX6_wakes_99 rfl ?_
              refine e_bipush (v := nI 13) dX6_wakes_100 (by decide) ?_
              refine e_aload_n 2 dX6_wakes_102 rfl ?_
              refine e_iload_n 0 dX6_wakes_103 rfl ?_
              refine e_bipush (v := nI 11) dX6_wakes_104 (by decide) ?_
              refine e_callV (ci := 6) (st := [.int (nI 13), .int (nI i), .ref X.1]) (st1 := [.int (kg (ks K i 12 ((kf (0)) + (kg K i 10))) i 11), .int (nI 13), .int (nI i), .ref X.1]) (As := [.int (nI i), .int (nI 11)]) (m_get hX (kg_lt (by omega) (by omega))) dX6_wakes_106 (by decide) cm_X6_get lk_X6_36 im_X6_get rfl sel_X6_get hX.1 rfl rfl (Nat.le_of_ble_eq_true rfl) rfl ?_
              refine e_callV (ci := 6) (st := []) (st1 := []) (As := [.int (nI i), .int (nI 13), .int (kg (ks K i 12 ((kf (0)) + (kg K i 10))) i 11)]) (m_set hX (kg_lt (by omega) (by decide))) dX6_wakes_109 (by decide) cm_X6_set lk_X6_59 im_X6_set rfl sel_X6_set hX.1 rfl rfl (Nat.le_of_ble_eq_true rfl) rfl ?_
              refine e_aload_n 2 dX6_wakes_112 rfl ?_
              refine e_bipush (v := nI 9) dX6_wakes_113 (by decide) ?_
              refine e_callV (ci := 6) (st := []) (st1 := []) (As := [.int (nI 9)]) (m_body hX (by omega)) dX6_wakes_115 (by decide) cm_X6_body lk_X6_63 im_X6_body rfl sel_X6_body hX.1 rfl rfl (Nat.le_of_ble_eq_true rfl) rfl ?_
              refine e_iinc1N (lv' := [(2, .int (nI (i + 1))), (1, .int (kf (0))), (0, .ref X.1)]) 0 dX6_wakes_118 rfl (by decide) rfl ?_
              refine e_goto 9 dX6_wakes_121 (by decide) ?_
              refine e_sub [0, 1, 2] rfl ?_
              exact ih (i + 1) (bd (ks (ks K i 12 ((kf (0)) + (kg K i 10))) i 13 (kg (ks K i 12 ((kf (0)) + (kg K i 10))) i 11)) 9) (by omega) (by show _ = wkS (kf 0) i (lp (wkS (kf 0)) i kf); rw [← hK]; rw [wkS, if_neg a1, wk1, if_neg (fun z => a2 z.1), wk2, if_pos ⟨a4, a5⟩])
            · skip
              refine e_goto 118 dX6_wakes_79 (by decide) ?_
              refine e_iinc1N (lv' := [(2, .int (nI (i + 1))), (1, .int (kf (0))), (0, .ref X.1)]) 0 dX6_wakes_118 rfl (by decide) rfl ?_
              refine e_goto 9 dX6_wakes_121 (by decide) ?_
              refine e_sub [0, 1, 2] rfl ?_
              exact ih (i + 1) K (by omega) (by show _ = wkS (kf 0) i (lp (wkS (kf 0)) i kf); rw [← hK]; rw [wkS, if_neg a1, wk1, if_neg (fun z => a2 z.1), wk2, if_neg (fun z => a5 z.2)])
        · skip
          refine e_aload_n 2 dX6_wakes_44 rfl ?_
          refine e_iload_n 0 dX6_wakes_45 rfl ?_
          refine e_bipush (v := nI 8) dX6_wakes_46 (by decide) ?_
          refine e_callV (ci := 6) (st := []) (st1 := [.int (kg K i 8)]) (As := [.int (nI i), .int (nI 8)]) (m_get hX (kg_lt (by omega) (by omega))) dX6_wakes_48 (by decide) cm_X6_get lk_X6_36 im_X6_get rfl sel_X6_get hX.1 rfl rfl (Nat.le_of_ble_eq_true rfl) rfl ?_
          refine e_iload_n 1 dX6_wakes_51 rfl ?_
          refine e_icmp_ne 60 dX6_wakes_52 (by decide) (fun a3 => ?_) (fun a3 => ?_)
          · skip
            refine e_aload_n 2 dX6_wakes_60 rfl ?_
            refine e_iload_n 0 dX6_wakes_61 rfl ?_
            refine e_callV (ci := 6) (st := []) (st1 := [.int (bI (isDue K i))]) (As := [.int (nI i)]) (m_isDue hX (by omega)) dX6_wakes_62 (by decide) cm_X6_isDue lk_X6_43 im_X6_isDue rfl sel_X6_isDue hX.1 rfl rfl (Nat.le_of_ble_eq_true rfl) rfl ?_
            refine e_if_eqB 118 dX6_wakes_65 (by decide) (fun a4 => ?_) (fun a4 => ?_)
            · skip
              refine e_iinc1N (lv' := [(2, .int (nI (i + 1))), (1, .int (kf (0))), (0, .ref X.1)]) 0 dX6_wakes_118 rfl (by decide) rfl ?_
              refine e_goto 9 dX6_wakes_121 (by decide) ?_
              refine e_sub [0, 1, 2] rfl ?_
              exact ih (i + 1) K (by omega) (by show _ = wkS (kf 0) i (lp (wkS (kf 0)) i kf); rw [← hK]; rw [wkS, if_neg a1, wk1, if_neg (fun z => a3 z.2), wk2, if_neg (fun z => by rw [a4] at z; exact absurd z.1 (by decide))])
            · skip
              refine e_aload_n 2 dX6_wakes_68 rfl ?_
              refine e_iload_n 0 dX6_wakes_69 rfl ?_
              refine e_bipush (v := nI 12) dX6_wakes_70 (by decide) ?_
              refine e_callV (ci := 6) (st := []) (st1 := [.int (kg K i 12)]) (As := [.int (nI i), .int (nI 12)]) (m_get hX (kg_lt (by omega) (by omega))) dX6_wakes_72 (by decide) cm_X6_get lk_X6_36 im_X6_get rfl sel_X6_get hX.1 rfl rfl (Nat.le_of_ble_eq_true rfl) rfl ?_
              refine e_iload_n 1 dX6_wakes_75 rfl ?_
              refine e_icmp_eq 82 dX6_wakes_76 (by decide) (fun a5 => ?_) (fun a5 => ?_)
              · skip
                refine e_aload_n 2 dX6_wakes_82 rfl ?_
                refine e_iload_n 0 dX6_wakes_83 rfl ?_
                refine e_bipush (v := nI 12) dX6_wakes_84 (by decide) ?_
                refine e_iload_n 1 dX6_wakes_86 rfl ?_
                refine e_aload_n 2 dX6_wakes_87 rfl ?_
                refine e_iload_n 0 dX6_wakes_88 rfl ?_
                refine e_bipush (v := nI 10) dX6_wakes_89 (by decide) ?_
                refine e_callV (ci := 6) (st := [.int (kf (0)), .int (nI 12), .int (nI i), .ref X.1]) (st1 := [.int (kg K i 10), .int (kf (0)), .int (nI 12), .int (nI i), .ref X.1]) (As := [.int (nI i), .int (nI 10)]) (m_get hX (kg_lt (by omega) (by omega))) dX6_wakes_91 (by decide) cm_X6_get lk_X6_36 im_X6_get rfl sel_X6_get hX.1 rfl rfl (Nat.le_of_ble_eq_true rfl) rfl ?_
                refine e_iadd dX6_wakes_94 ?_
                refine e_callV (ci := 6) (st := []) (st1 := []) (As := [.int (nI i), .int (nI 12), .int ((kf (0)) + (kg K i 10))]) (m_set hX (kg_lt (by omega) (by decide))) dX6_wakes_95 (by decide) cm_X6_set lk_X6_59 im_X6_set rfl sel_X6_set hX.1 rfl rfl (Nat.le_of_ble_eq_true rfl) rfl ?_
                refine e_aload_n 2 dX6_wakes_98 rfl ?_
                refine e_iload_n 0 dX6_wakes_99 rfl ?_
                refine e_bipush (v := nI 13) dX6_wakes_100 (by decide) ?_
                refine e_aload_n 2 dX6_wakes_102 rfl ?_
                refine e_iload_n 0 dX6_wakes_103 rfl ?_
                refine e_bipush (v := nI 11) dX6_wakes_104 (by decide) ?_
                refine e_callV (ci := 6) (st := [.int (nI 13), .int (nI i), .ref X.1]) (st1 := [.int (kg (ks K i 12 ((kf (0)) + (kg K i 10))) i 11), .int (nI 13), .int (nI i), .ref X.1]) (As := [.int (nI i), .int (nI 11)]) (m_get hX (kg_lt (by omega) (by omega))) dX6_wakes_106 (by decide) cm_X6_get lk_X6_36 im_X6_get rfl sel_X6_get hX.1 rfl rfl (Nat.le_of_ble_eq_true rfl) rfl ?_
                refine e_callV (ci := 6) (st := []) (st1 := []) (As := [.int (nI i), .int (nI 13), .int (kg (ks K i 12 ((kf (0)) + (kg K i 10))) i 11)]) (m_set hX (kg_lt (by omega) (by decide))) dX6_wakes_109 (by decide) cm_X6_set lk_X6_59 im_X6_set rfl sel_X6_set hX.1 rfl rfl (Nat.le_of_ble_eq_true rfl) rfl ?_
                refine e_aload_n 2 dX6_wakes_112 rfl ?_
                refine e_bipush (v := nI 9) dX6_wakes_113 (by decide) ?_
                refine e_callV (ci := 6) (st := []) (st1 := []) (As := [.int (nI 9)]) (m_body hX (by omega)) dX6_wakes_115 (by decide) cm_X6_body lk_X6_63 im_X6_body rfl sel_X6_body hX.1 rfl rfl (Nat.le_of_ble_eq_true rfl) rfl ?_
                refine e_iinc1N (lv' := [(2, .int (nI (i + 1))), (1, .int (kf (0))), (0, .ref X.1)]) 0 dX6_wakes_118 rfl (by decide) rfl ?_
                refine e_goto 9 dX6_wakes_121 (by decide) ?_
                refine e_sub [0, 1, 2] rfl ?_
                exact ih (i + 1) (bd (ks (ks K i 12 ((kf (0)) + (kg K i 10))) i 13 (kg (ks K i 12 ((kf (0)) + (kg K i 10))) i 11)) 9) (by omega) (by show _ = wkS (kf 0) i (lp (wkS (kf 0)) i kf); rw [← hK]; rw [wkS, if_neg a1, wk1, if_neg (fun z => a3 z.2), wk2, if_pos ⟨a4, a5⟩])
              · skip
                refine e_goto 118 dX6_wakes_79 (by decide) ?_
                refine e_iinc1N (lv' := [(2, .int (nI (i + 1))), (1, .int (kf (0))), (0, .ref X.1)]) 0 dX6_wakes_118 rfl (by decide) rfl ?_
                refine e_goto 9 dX6_wakes_121 (by decide) ?_
                refine e_sub [0, 1, 2] rfl ?_
                exact ih (i + 1) K (by omega) (by show _ = wkS (kf 0) i (lp (wkS (kf 0)) i kf); rw [← hK]; rw [wkS, if_neg a1, wk1, if_neg (fun z => a3 z.2), wk2, if_neg (fun z => a5 z.2)])
          · skip
            refine e_aload_n 2 dX6_wakes_55 rfl ?_
            refine e_iload_n 0 dX6_wakes_56 rfl ?_
            refine e_callV (ci := 6) (st := []) (st1 := []) (As := [.int (nI i)]) (m_isReadyNow hX (by omega)) dX6_wakes_57 (by decide) cm_X6_isReadyNow lk_X6_70 im_X6_isReadyNow rfl sel_X6_isReadyNow hX.1 rfl rfl (Nat.le_of_ble_eq_true rfl) rfl ?_
            refine e_aload_n 2 dX6_wakes_60 rfl ?_
            refine e_iload_n 0 dX6_wakes_61 rfl ?_
            refine e_callV (ci := 6) (st := []) (st1 := [.int (bI (isDue (rdy K i) i))]) (As := [.int (nI i)]) (m_isDue hX (by omega)) dX6_wakes_62 (by decide) cm_X6_isDue lk_X6_43 im_X6_isDue rfl sel_X6_isDue hX.1 rfl rfl (Nat.le_of_ble_eq_true rfl) rfl ?_
            refine e_if_eqB 118 dX6_wakes_65 (by decide) (fun a4 => ?_) (fun a4 => ?_)
            · skip
              refine e_iinc1N (lv' := [(2, .int (nI (i + 1))), (1, .int (kf (0))), (0, .ref X.1)]) 0 dX6_wakes_118 rfl (by decide) rfl ?_
              refine e_goto 9 dX6_wakes_121 (by decide) ?_
              refine e_sub [0, 1, 2] rfl ?_
              exact ih (i + 1) (rdy K i) (by omega) (by show _ = wkS (kf 0) i (lp (wkS (kf 0)) i kf); rw [← hK]; rw [wkS, if_neg a1, wk1, if_pos ⟨a2, a3⟩, wk2, if_neg (fun z => by rw [a4] at z; exact absurd z.1 (by decide))])
            · skip
              refine e_aload_n 2 dX6_wakes_68 rfl ?_
              refine e_iload_n 0 dX6_wakes_69 rfl ?_
              refine e_bipush (v := nI 12) dX6_wakes_70 (by decide) ?_
              refine e_callV (ci := 6) (st := []) (st1 := [.int (kg (rdy K i) i 12)]) (As := [.int (nI i), .int (nI 12)]) (m_get hX (kg_lt (by omega) (by omega))) dX6_wakes_72 (by decide) cm_X6_get lk_X6_36 im_X6_get rfl sel_X6_get hX.1 rfl rfl (Nat.le_of_ble_eq_true rfl) rfl ?_
              refine e_iload_n 1 dX6_wakes_75 rfl ?_
              refine e_icmp_eq 82 dX6_wakes_76 (by decide) (fun a5 => ?_) (fun a5 => ?_)
              · skip
                refine e_aload_n 2 dX6_wakes_82 rfl ?_
                refine e_iload_n 0 dX6_wakes_83 rfl ?_
                refine e_bipush (v := nI 12) dX6_wakes_84 (by decide) ?_
                refine e_iload_n 1 dX6_wakes_86 rfl ?_
                refine e_aload_n 2 dX6_wakes_87 rfl ?_
                refine e_iload_n 0 dX6_wakes_88 rfl ?_
                refine e_bipush (v := nI 10) dX6_wakes_89 (by decide) ?_
                refine e_callV (ci := 6) (st := [.int (kf (0)), .int (nI 12), .int (nI i), .ref X.1]) (st1 := [.int (kg (rdy K i) i 10), .int (kf (0)), .int (nI 12), .int (nI i), .ref X.1]) (As := [.int (nI i), .int (nI 10)]) (m_get hX (kg_lt (by omega) (by omega))) dX6_wakes_91 (by decide) cm_X6_get lk_X6_36 im_X6_get rfl sel_X6_get hX.1 rfl rfl (Nat.le_of_ble_eq_true rfl) rfl ?_
                refine e_iadd dX6_wakes_94 ?_
                refine e_callV (ci := 6) (st := []) (st1 := []) (As := [.int (nI i), .int (nI 12), .int ((kf (0)) + (kg (rdy K i) i 10))]) (m_set hX (kg_lt (by omega) (by decide))) dX6_wakes_95 (by decide) cm_X6_set lk_X6_59 im_X6_set rfl sel_X6_set hX.1 rfl rfl (Nat.le_of_ble_eq_true rfl) rfl ?_
                refine e_aload_n 2 dX6_wakes_98 rfl ?_
                refine e_iload_n 0 dX6_wakes_99 rfl ?_
                refine e_bipush (v := nI 13) dX6_wakes_100 (by decide) ?_
                refine e_aload_n 2 dX6_wakes_102 rfl ?_
                refine e_iload_n 0 dX6_wakes_103 rfl ?_
                refine e_bipush (v := nI 11) dX6_wakes_104 (by decide) ?_
                refine e_callV (ci := 6) (st := [.int (nI 13), .int (nI i), .ref X.1]) (st1 := [.int (kg (ks (rdy K i) i 12 ((kf (0)) + (kg (rdy K i) i 10))) i 11), .int (nI 13), .int (nI i), .ref X.1]) (As := [.int (nI i), .int (nI 11)]) (m_get hX (kg_lt (by omega) (by omega))) dX6_wakes_106 (by decide) cm_X6_get lk_X6_36 im_X6_get rfl sel_X6_get hX.1 rfl rfl (Nat.le_of_ble_eq_true rfl) rfl ?_
                refine e_callV (ci := 6) (st := []) (st1 := []) (As := [.int (nI i), .int (nI 13), .int (kg (ks (rdy K i) i 12 ((kf (0)) + (kg (rdy K i) i 10))) i 11)]) (m_set hX (kg_lt (by omega) (by decide))) dX6_wakes_109 (by decide) cm_X6_set lk_X6_59 im_X6_set rfl sel_X6_set hX.1 rfl rfl (Nat.le_of_ble_eq_true rfl) rfl ?_
                refine e_aload_n 2 dX6_wakes_112 rfl ?_
                refine e_bipush (v := nI 9) dX6_wakes_113 (by decide) ?_
                refine e_callV (ci := 6) (st := []) (st1 := []) (As := [.int (nI 9)]) (m_body hX (by omega)) dX6_wakes_115 (by decide) cm_X6_body lk_X6_63 im_X6_body rfl sel_X6_body hX.1 rfl rfl (Nat.le_of_ble_eq_true rfl) rfl ?_
                refine e_iinc1N (lv' := [(2, .int (nI (i + 1))), (1, .int (kf (0))), (0, .ref X.1)]) 0 dX6_wakes_118 rfl (by decide) rfl ?_
                refine e_goto 9 dX6_wakes_121 (by decide) ?_
                refine e_sub [0, 1, 2] rfl ?_
                exact ih (i + 1) (bd (ks (ks (rdy K i) i 12 ((kf (0)) + (kg (rdy K i) i 10))) i 13 (kg (ks (rdy K i) i 12 ((kf (0)) + (kg (rdy K i) i 10))) i 11)) 9) (by omega) (by show _ = wkS (kf 0) i (lp (wkS (kf 0)) i kf); rw [← hK]; rw [wkS, if_neg a1, wk1, if_pos ⟨a2, a3⟩, wk2, if_pos ⟨a4, a5⟩])
              · skip
                refine e_goto 118 dX6_wakes_79 (by decide) ?_
                refine e_iinc1N (lv' := [(2, .int (nI (i + 1))), (1, .int (kf (0))), (0, .ref X.1)]) 0 dX6_wakes_118 rfl (by decide) rfl ?_
                refine e_goto 9 dX6_wakes_121 (by decide) ?_
                refine e_sub [0, 1, 2] rfl ?_
                exact ih (i + 1) (rdy K i) (by omega) (by show _ = wkS (kf 0) i (lp (wkS (kf 0)) i kf); rw [← hK]; rw [wkS, if_neg a1, wk1, if_pos ⟨a2, a3⟩, wk2, if_neg (fun z => a5 z.2)])
      · skip
        refine e_goto 118 dX6_wakes_30 (by decide) ?_
        refine e_iinc1N (lv' := [(2, .int (nI (i + 1))), (1, .int (kf (0))), (0, .ref X.1)]) 0 dX6_wakes_118 rfl (by decide) rfl ?_
        refine e_goto 9 dX6_wakes_121 (by decide) ?_
        refine e_sub [0, 1, 2] rfl ?_
        exact ih (i + 1) K (by omega) (by show _ = wkS (kf 0) i (lp (wkS (kf 0)) i kf); rw [← hK]; rw [wkS, if_pos a1])
  refine e_lvs (lv' := [(0, .ref X.1)]) rfl ?_
  refine e_aload_n 0 dX6_wakes_0 rfl ?_
  refine e_mk hX dX6_wakes_1 fl_X6_8 ?_
  refine e_ic (nI 0) dX6_wakes_4 (by decide) ?_
  refine e_kld hX dX6_wakes_5 (by omega) ?_
  refine e_istore_n (lv' := [(1, .int (kf (0))), (0, .ref X.1)]) dX6_wakes_6 (by decide) rfl ?_
  refine e_ic (nI 0) dX6_wakes_7 (by decide) ?_
  refine e_istore_n (lv' := [(2, .int (nI 0)), (1, .int (kf (0))), (0, .ref X.1)]) dX6_wakes_8 (by decide) rfl ?_
  refine e_sub [0, 1, 2] rfl ?_
  exact L n 0 kf (by omega) rfl
set_option maxRecDepth 100000 in
set_option maxHeartbeats 4000000 in
theorem m_puts (hX : MW m X) {r : Nat} {a b c d e : Int32} (hr : r + 5 ≤ 40000) : Ev G 0 uX6_puts [.ref X.1, .int (nI r), .int a, .int b, .int c, .int d, .int e] (MM m X (kf, vf, lf)) none (MM m X (ptF kf r a b c d e, vf, lf)) := by
  refine Ev.of (by decide +kernel) (Nat.le_of_ble_eq_true rfl) ?_
  refine e_lvs (lv' := [(0, .ref X.1), (1, .int (nI r)), (2, .int a), (3, .int b), (4, .int c), (5, .int d), (6, .int e)]) rfl ?_
  refine e_ic (nI 0) dX6_puts_0 (by decide) ?_
  refine e_istore (lv' := [(7, .int (nI 0)), (0, .ref X.1), (1, .int (nI r)), (2, .int a), (3, .int b), (4, .int c), (5, .int d), (6, .int e)]) dX6_puts_1 (by decide) rfl ?_
  refine e_iload 0 dX6_puts_3 rfl ?_
  refine e_ic (nI 5) dX6_puts_5 (by decide) ?_
  refine e_icmp_geN 88 dX6_puts_6 (by decide) (by omega) (by omega) (fun h => absurd h (by decide)) (fun _ => ?_)
  refine e_iload 0 dX6_puts_9 rfl ?_
  refine e_if_ne 18 dX6_puts_11 (by decide) (fun h => absurd h (by decide)) (fun _ => ?_)
  refine e_iload_n 3 dX6_puts_14 rfl ?_
  refine e_goto 52 dX6_puts_15 (by decide) ?_
  refine e_istore (lv' := [(8, .int a), (7, .int (nI 0)), (0, .ref X.1), (1, .int (nI r)), (2, .int a), (3, .int b), (4, .int c), (5, .int d), (6, .int e)]) dX6_puts_52 (by decide) rfl ?_
  refine e_aload_n 2 dX6_puts_54 rfl ?_
  refine e_mk hX dX6_puts_55 fl_X6_8 ?_
  refine e_ldc dX6_puts_58 cs_X6_140 ?_
  refine e_iv (w := nI 62000) (by decide) ?_
  refine e_iload_n 3 dX6_puts_60 rfl ?_
  refine e_iaddN dX6_puts_61 ?_
  refine e_iload 1 dX6_puts_62 rfl ?_
  refine e_iaddN dX6_puts_64 ?_
  refine e_iload 0 dX6_puts_65 rfl ?_
  refine e_kst hX dX6_puts_67 (by omega) ?_
  refine e_aload_n 2 dX6_puts_68 rfl ?_
  refine e_mk hX dX6_puts_69 fl_X6_8 ?_
  refine e_ldc dX6_puts_72 cs_X6_141 ?_
  refine e_iv (w := nI 102000) (by decide) ?_
  refine e_iload_n 3 dX6_puts_74 rfl ?_
  refine e_iaddN dX6_puts_75 ?_
  refine e_iload 1 dX6_puts_76 rfl ?_
  refine e_iaddN dX6_puts_78 ?_
  refine e_iload 0 dX6_puts_79 rfl ?_
  refine e_kst hX dX6_puts_81 (by omega) ?_
  refine e_iinc1N (lv' := [(7, .int (nI 1)), (8, .int a), (0, .ref X.1), (1, .int (nI r)), (2, .int a), (3, .int b), (4, .int c), (5, .int d), (6, .int e)]) 1 dX6_puts_82 rfl (by decide) rfl ?_
  refine e_goto 3 dX6_puts_85 (by decide) ?_
  refine e_iload 0 dX6_puts_3 rfl ?_
  refine e_ic (nI 5) dX6_puts_5 (by decide) ?_
  refine e_icmp_geN 88 dX6_puts_6 (by decide) (by omega) (by omega) (fun h => absurd h (by decide)) (fun _ => ?_)
  refine e_iload 0 dX6_puts_9 rfl ?_
  refine e_if_ne 18 dX6_puts_11 (by decide) (fun _ => ?_) (fun h => absurd h (by decide))
  refine e_iload 0 dX6_puts_18 rfl ?_
  refine e_ic (nI 1) dX6_puts_20 (by decide) ?_
  refine e_icmp_neN 28 dX6_puts_21 (by decide) (by omega) (by omega) (fun h => absurd h (by decide)) (fun _ => ?_)
  refine e_iload_n 5 dX6_puts_24 rfl ?_
  refine e_goto 52 dX6_puts_25 (by decide) ?_
  refine e_istore (lv' := [(8, .int b), (7, .int (nI 1)), (0, .ref X.1), (1, .int (nI r)), (2, .int a), (3, .int b), (4, .int c), (5, .int d), (6, .int e)]) dX6_puts_52 (by decide) rfl ?_
  refine e_aload_n 2 dX6_puts_54 rfl ?_
  refine e_mk hX dX6_puts_55 fl_X6_8 ?_
  refine e_ldc dX6_puts_58 cs_X6_140 ?_
  refine e_iv (w := nI 62000) (by decide) ?_
  refine e_iload_n 3 dX6_puts_60 rfl ?_
  refine e_iaddN dX6_puts_61 ?_
  refine e_iload 1 dX6_puts_62 rfl ?_
  refine e_iaddN dX6_puts_64 ?_
  refine e_iload 0 dX6_puts_65 rfl ?_
  refine e_kst hX dX6_puts_67 (by omega) ?_
  refine e_aload_n 2 dX6_puts_68 rfl ?_
  refine e_mk hX dX6_puts_69 fl_X6_8 ?_
  refine e_ldc dX6_puts_72 cs_X6_141 ?_
  refine e_iv (w := nI 102000) (by decide) ?_
  refine e_iload_n 3 dX6_puts_74 rfl ?_
  refine e_iaddN dX6_puts_75 ?_
  refine e_iload 1 dX6_puts_76 rfl ?_
  refine e_iaddN dX6_puts_78 ?_
  refine e_iload 0 dX6_puts_79 rfl ?_
  refine e_kst hX dX6_puts_81 (by omega) ?_
  refine e_iinc1N (lv' := [(7, .int (nI 2)), (8, .int b), (0, .ref X.1), (1, .int (nI r)), (2, .int a), (3, .int b), (4, .int c), (5, .int d), (6, .int e)]) 1 dX6_puts_82 rfl (by decide) rfl ?_
  refine e_goto 3 dX6_puts_85 (by decide) ?_
  refine e_iload 0 dX6_puts_3 rfl ?_
  refine e_ic (nI 5) dX6_puts_5 (by decide) ?_
  refine e_icmp_geN 88 dX6_puts_6 (by decide) (by omega) (by omega) (fun h => absurd h (by decide)) (fun _ => ?_)
  refine e_iload 0 dX6_puts_9 rfl ?_
  refine e_if_ne 18 dX6_puts_11 (by decide) (fun _ => ?_) (fun h => absurd h (by decide))
  refine e_iload 0 dX6_puts_18 rfl ?_
  refine e_ic (nI 1) dX6_puts_20 (by decide) ?_
  refine e_icmp_neN 28 dX6_puts_21 (by decide) (by omega) (by omega) (fun _ => ?_) (fun h => absurd h (by decide))
  refine e_iload 0 dX6_puts_28 rfl ?_
  refine e_ic (nI 2) dX6_puts_30 (by decide) ?_
  refine e_icmp_neN 39 dX6_puts_31 (by decide) (by omega) (by omega) (fun h => absurd h (by decide)) (fun _ => ?_)
  refine e_iload 6 dX6_puts_34 rfl ?_
  refine e_goto 52 dX6_puts_36 (by decide) ?_
  refine e_istore (lv' := [(8, .int c), (7, .int (nI 2)), (0, .ref X.1), (1, .int (nI r)), (2, .int a), (3, .int b), (4, .int c), (5, .int d), (6, .int e)]) dX6_puts_52 (by decide) rfl ?_
  refine e_aload_n 2 dX6_puts_54 rfl ?_
  refine e_mk hX dX6_puts_55 fl_X6_8 ?_
  refine e_ldc dX6_puts_58 cs_X6_140 ?_
  refine e_iv (w := nI 62000) (by decide) ?_
  refine e_iload_n 3 dX6_puts_60 rfl ?_
  refine e_iaddN dX6_puts_61 ?_
  refine e_iload 1 dX6_puts_62 rfl ?_
  refine e_iaddN dX6_puts_64 ?_
  refine e_iload 0 dX6_puts_65 rfl ?_
  refine e_kst hX dX6_puts_67 (by omega) ?_
  refine e_aload_n 2 dX6_puts_68 rfl ?_
  refine e_mk hX dX6_puts_69 fl_X6_8 ?_
  refine e_ldc dX6_puts_72 cs_X6_141 ?_
  refine e_iv (w := nI 102000) (by decide) ?_
  refine e_iload_n 3 dX6_puts_74 rfl ?_
  refine e_iaddN dX6_puts_75 ?_
  refine e_iload 1 dX6_puts_76 rfl ?_
  refine e_iaddN dX6_puts_78 ?_
  refine e_iload 0 dX6_puts_79 rfl ?_
  refine e_kst hX dX6_puts_81 (by omega) ?_
  refine e_iinc1N (lv' := [(7, .int (nI 3)), (8, .int c), (0, .ref X.1), (1, .int (nI r)), (2, .int a), (3, .int b), (4, .int c), (5, .int d), (6, .int e)]) 1 dX6_puts_82 rfl (by decide) rfl ?_
  refine e_goto 3 dX6_puts_85 (by decide) ?_
  refine e_iload 0 dX6_puts_3 rfl ?_
  refine e_ic (nI 5) dX6_puts_5 (by decide) ?_
  refine e_icmp_geN 88 dX6_puts_6 (by decide) (by omega) (by omega) (fun h => absurd h (by decide)) (fun _ => ?_)
  refine e_iload 0 dX6_puts_9 rfl ?_
  refine e_if_ne 18 dX6_puts_11 (by decide) (fun _ => ?_) (fun h => absurd h (by decide))
  refine e_iload 0 dX6_puts_18 rfl ?_
  refine e_ic (nI 1) dX6_puts_20 (by decide) ?_
  refine e_icmp_neN 28 dX6_puts_21 (by decide) (by omega) (by omega) (fun _ => ?_) (fun h => absurd h (by decide))
  refine e_iload 0 dX6_puts_28 rfl ?_
  refine e_ic (nI 2) dX6_puts_30 (by decide) ?_
  refine e_icmp_neN 39 dX6_puts_31 (by decide) (by omega) (by omega) (fun _ => ?_) (fun h => absurd h (by decide))
  refine e_iload 0 dX6_puts_39 rfl ?_
  refine e_ic (nI 3) dX6_puts_41 (by decide) ?_
  refine e_icmp_neN 50 dX6_puts_42 (by decide) (by omega) (by omega) (fun h => absurd h (by decide)) (fun _ => ?_)
  refine e_iload 7 dX6_puts_45 rfl ?_
  refine e_goto 52 dX6_puts_47 (by decide) ?_
  refine e_istore (lv' := [(8, .int d), (7, .int (nI 3)), (0, .ref X.1), (1, .int (nI r)), (2, .int a), (3, .int b), (4, .int c), (5, .int d), (6, .int e)]) dX6_puts_52 (by decide) rfl ?_
  refine e_aload_n 2 dX6_puts_54 rfl ?_
  refine e_mk hX dX6_puts_55 fl_X6_8 ?_
  refine e_ldc dX6_puts_58 cs_X6_140 ?_
  refine e_iv (w := nI 62000) (by decide) ?_
  refine e_iload_n 3 dX6_puts_60 rfl ?_
  refine e_iaddN dX6_puts_61 ?_
  refine e_iload 1 dX6_puts_62 rfl ?_
  refine e_iaddN dX6_puts_64 ?_
  refine e_iload 0 dX6_puts_65 rfl ?_
  refine e_kst hX dX6_puts_67 (by omega) ?_
  refine e_aload_n 2 dX6_puts_68 rfl ?_
  refine e_mk hX dX6_puts_69 fl_X6_8 ?_
  refine e_ldc dX6_puts_72 cs_X6_141 ?_
  refine e_iv (w := nI 102000) (by decide) ?_
  refine e_iload_n 3 dX6_puts_74 rfl ?_
  refine e_iaddN dX6_puts_75 ?_
  refine e_iload 1 dX6_puts_76 rfl ?_
  refine e_iaddN dX6_puts_78 ?_
  refine e_iload 0 dX6_puts_79 rfl ?_
  refine e_kst hX dX6_puts_81 (by omega) ?_
  refine e_iinc1N (lv' := [(7, .int (nI 4)), (8, .int d), (0, .ref X.1), (1, .int (nI r)), (2, .int a), (3, .int b), (4, .int c), (5, .int d), (6, .int e)]) 1 dX6_puts_82 rfl (by decide) rfl ?_
  refine e_goto 3 dX6_puts_85 (by decide) ?_
  refine e_iload 0 dX6_puts_3 rfl ?_
  refine e_ic (nI 5) dX6_puts_5 (by decide) ?_
  refine e_icmp_geN 88 dX6_puts_6 (by decide) (by omega) (by omega) (fun h => absurd h (by decide)) (fun _ => ?_)
  refine e_iload 0 dX6_puts_9 rfl ?_
  refine e_if_ne 18 dX6_puts_11 (by decide) (fun _ => ?_) (fun h => absurd h (by decide))
  refine e_iload 0 dX6_puts_18 rfl ?_
  refine e_ic (nI 1) dX6_puts_20 (by decide) ?_
  refine e_icmp_neN 28 dX6_puts_21 (by decide) (by omega) (by omega) (fun _ => ?_) (fun h => absurd h (by decide))
  refine e_iload 0 dX6_puts_28 rfl ?_
  refine e_ic (nI 2) dX6_puts_30 (by decide) ?_
  refine e_icmp_neN 39 dX6_puts_31 (by decide) (by omega) (by omega) (fun _ => ?_) (fun h => absurd h (by decide))
  refine e_iload 0 dX6_puts_39 rfl ?_
  refine e_ic (nI 3) dX6_puts_41 (by decide) ?_
  refine e_icmp_neN 50 dX6_puts_42 (by decide) (by omega) (by omega) (fun _ => ?_) (fun h => absurd h (by decide))
  refine e_iload 8 dX6_puts_50 rfl ?_
  refine e_istore (lv' := [(8, .int e), (7, .int (nI 4)), (0, .ref X.1), (1, .int (nI r)), (2, .int a), (3, .int b), (4, .int c), (5, .int d), (6, .int e)]) dX6_puts_52 (by decide) rfl ?_
  refine e_aload_n 2 dX6_puts_54 rfl ?_
  refine e_mk hX dX6_puts_55 fl_X6_8 ?_
  refine e_ldc dX6_puts_58 cs_X6_140 ?_
  refine e_iv (w := nI 62000) (by decide) ?_
  refine e_iload_n 3 dX6_puts_60 rfl ?_
  refine e_iaddN dX6_puts_61 ?_
  refine e_iload 1 dX6_puts_62 rfl ?_
  refine e_iaddN dX6_puts_64 ?_
  refine e_iload 0 dX6_puts_65 rfl ?_
  refine e_kst hX dX6_puts_67 (by omega) ?_
  refine e_aload_n 2 dX6_puts_68 rfl ?_
  refine e_mk hX dX6_puts_69 fl_X6_8 ?_
  refine e_ldc dX6_puts_72 cs_X6_141 ?_
  refine e_iv (w := nI 102000) (by decide) ?_
  refine e_iload_n 3 dX6_puts_74 rfl ?_
  refine e_iaddN dX6_puts_75 ?_
  refine e_iload 1 dX6_puts_76 rfl ?_
  refine e_iaddN dX6_puts_78 ?_
  refine e_iload 0 dX6_puts_79 rfl ?_
  refine e_kst hX dX6_puts_81 (by omega) ?_
  refine e_iinc1N (lv' := [(7, .int (nI 5)), (8, .int e), (0, .ref X.1), (1, .int (nI r)), (2, .int a), (3, .int b), (4, .int c), (5, .int d), (6, .int e)]) 1 dX6_puts_82 rfl (by decide) rfl ?_
  refine e_goto 3 dX6_puts_85 (by decide) ?_
  refine e_iload 0 dX6_puts_3 rfl ?_
  refine e_ic (nI 5) dX6_puts_5 (by decide) ?_
  refine e_icmp_geN 88 dX6_puts_6 (by decide) (by omega) (by omega) (fun _ => ?_) (fun h => absurd h (by decide))
  exact e_retV dX6_puts_88 rfl rfl
set_option maxRecDepth 100000 in
set_option maxHeartbeats 4000000 in
theorem m_chooses (hX : MW m X) {n c p : Nat} (hp : p < 4) (hn : kf 1 = nI n) (hn2 : n ≤ 200) (hC : CH kf n) (hr : kf 3 = nI c) (hc : c < 8000) : Ev G 6 uX6_chooses [.ref X.1, .int (nI p)] (MM m X (kf, vf, lf)) none (MM m X ((chF kf vf lf p).1, vf, (chF kf vf lf p).2)) := by
  refine Ev.of (by decide +kernel) (Nat.le_of_ble_eq_true rfl) ?_
  have L : ∀ (k i : Nat) (B : Option Nat), i + k = n → B = lp (pkS kf vf (rdP kf lf)) i none → (∀ b, B = some b → b < 200) → EvB G 6 uX6_chooses (zz (MM m X (kf, vf, lf))) (nn (MM m X (kf, vf, lf))) none (MM m X ((chF kf vf lf p).1, vf, (chF kf vf lf p).2)) 7 [(4, .int (nI i)), (3, .int (oI (B.map (stnd kf vf)))), (2, .int (oI B)), (0, .ref X.1), (1, .int (nI p))] [] (MM m X (kf, vf, lf)) := by
    intro k
    induction k with
    | zero =>
      intro i B hi hB hB2
      cases B with
      | none =>
        refine e_lvs (lv' := [(4, .int (nI i)), (3, .int (-1)), (2, .int (-1)), (0, .ref X.1), (1, .int (nI p))]) rfl ?_
        refine e_iload 0 dX6_chooses_7 rfl ?_
        refine e_aload_n 3 dX6_chooses_9 rfl ?_
        refine e_mk hX dX6_chooses_10 fl_X6_8 ?_
        refine e_ic (nI 1) dX6_chooses_13 (by decide) ?_
        refine e_kld hX dX6_chooses_14 (by omega) (e_iv (w := nI n) (hn) ?_)
        refine e_icmp_geN 76 dX6_chooses_15 (by decide) (by omega) (by omega) (fun _ => ?_) (fun h => absurd h (by omega))
        refine e_aload_n 3 dX6_chooses_76 rfl ?_
        refine e_mk hX dX6_chooses_77 fl_X6_8 ?_
        refine e_bipush (v := nI 7) dX6_chooses_80 (by decide) ?_
        refine e_iload_n 4 dX6_chooses_82 rfl ?_
        refine e_iaddN dX6_chooses_83 ?_
        refine e_iload_n 2 dX6_chooses_84 rfl ?_
        refine e_kst hX dX6_chooses_85 (by omega) ?_
        refine e_iload_n 2 dX6_chooses_86 rfl ?_
        refine e_if_ge 91 dX6_chooses_87 (by decide) (fun h => absurd h (by decide)) (fun _ => ?_)
        exact e_retV dX6_chooses_90 rfl rfl (by rw [chF, nT_of hn hn2, pick, ← show i = n by omega, ← hB])
      | some b =>
        have hb := hB2 b rfl
        have g2 : stnd kf vf b < 200 := stnd_lt hb hn hn2
        refine e_lvs (lv' := [(4, .int (nI i)), (3, .int (nI (stnd kf vf b))), (2, .int (nI b)), (0, .ref X.1), (1, .int (nI p))]) rfl ?_
        refine e_iload 0 dX6_chooses_7 rfl ?_
        refine e_aload_n 3 dX6_chooses_9 rfl ?_
        refine e_mk hX dX6_chooses_10 fl_X6_8 ?_
        refine e_ic (nI 1) dX6_chooses_13 (by decide) ?_
        refine e_kld hX dX6_chooses_14 (by omega) (e_iv (w := nI n) (hn) ?_)
        refine e_icmp_geN 76 dX6_chooses_15 (by decide) (by omega) (by omega) (fun _ => ?_) (fun h => absurd h (by omega))
        refine e_aload_n 3 dX6_chooses_76 rfl ?_
        refine e_mk hX dX6_chooses_77 fl_X6_8 ?_
        refine e_bipush (v := nI 7) dX6_chooses_80 (by decide) ?_
        refine e_iload_n 4 dX6_chooses_82 rfl ?_
        refine e_iaddN dX6_chooses_83 ?_
        refine e_iload_n 2 dX6_chooses_84 rfl ?_
        refine e_kst hX dX6_chooses_85 (by omega) ?_
        refine e_iload_n 2 dX6_chooses_86 rfl ?_
        refine e_if_ge 91 dX6_chooses_87 (by decide) (fun _ => ?_) (fun h => absurd h (not_not_intro (nI_pos' (by omega))))
        refine e_aload_n 3 dX6_chooses_91 rfl ?_
        refine e_ml hX dX6_chooses_92 fl_X6_28 ?_
        refine e_iload_n 2 dX6_chooses_95 rfl ?_
        refine e_ic (nI 1) dX6_chooses_96 (by decide) ?_
        refine e_lst hX dX6_chooses_97 rfl (by omega) ?_
        refine e_ic (nI 5) dX6_chooses_98 (by decide) ?_
        refine e_aload_n 3 dX6_chooses_99 rfl ?_
        refine e_mk hX dX6_chooses_100 fl_X6_8 ?_
        refine e_ic (nI 3) dX6_chooses_103 (by decide) ?_
        refine e_kld hX dX6_chooses_104 (by omega) (e_iv (w := nI c) (by rw [upd_ne _ _ (by omega)]; exact hr) ?_)
        refine e_imulN dX6_chooses_105 ?_
        refine e_istore (lv' := [(4, .int (nI (5 * c))), (3, .int (nI (stnd kf vf b))), (2, .int (nI b)), (0, .ref X.1), (1, .int (nI p))]) dX6_chooses_106 (by decide) rfl ?_
        refine e_aload_n 3 dX6_chooses_108 rfl ?_
        refine e_iload 0 dX6_chooses_109 rfl ?_
        refine e_aload_n 3 dX6_chooses_111 rfl ?_
        refine e_mk hX dX6_chooses_112 fl_X6_8 ?_
        refine e_ic (nI 0) dX6_chooses_115 (by decide) ?_
        refine e_kld hX dX6_chooses_116 (by omega) ?_
        refine e_iload_n 4 dX6_chooses_117 rfl ?_
        refine e_iload_n 2 dX6_chooses_118 rfl ?_
        refine e_aload_n 3 dX6_chooses_119 rfl ?_
        refine e_iload_n 1 dX6_chooses_120 rfl ?_
        refine e_callV (ci := 6) (st := [.int (nI b), .int (nI p), .int ((upd kf (7 + p) (nI b)) (0)), .int (nI (5 * c)), .ref X.1]) (st1 := [.int (cls (upd kf (7 + p) (nI b)) (stnd kf vf b)), .int (nI b), .int (nI p), .int ((upd kf (7 + p) (nI b)) (0)), .int (nI (5 * c)), .ref X.1]) (As := [.int (nI (stnd kf vf b))]) (m_classOf hX (by omega)) dX6_chooses_121 (by decide) cm_X6_classOf lk_X6_47 im_X6_classOf rfl sel_X6_classOf hX.1 rfl rfl (Nat.le_of_ble_eq_true rfl) rfl ?_
        refine e_aload_n 3 dX6_chooses_124 rfl ?_
        refine e_iload_n 1 dX6_chooses_125 rfl ?_
        refine e_callV (ci := 6) (st := [.int (cls (upd kf (7 + p) (nI b)) (stnd kf vf b)), .int (nI b), .int (nI p), .int ((upd kf (7 + p) (nI b)) (0)), .int (nI (5 * c)), .ref X.1]) (st1 := [.long (key (upd kf (7 + p) (nI b)) vf (stnd kf vf b)), .int (cls (upd kf (7 + p) (nI b)) (stnd kf vf b)), .int (nI b), .int (nI p), .int ((upd kf (7 + p) (nI b)) (0)), .int (nI (5 * c)), .ref X.1]) (As := [.int (nI (stnd kf vf b))]) (m_keyOf hX (by omega)) dX6_chooses_126 (by decide) cm_X6_keyOf lk_X6_51 im_X6_keyOf rfl sel_X6_keyOf hX.1 rfl rfl (Nat.le_of_ble_eq_true rfl) rfl ?_
        refine e_l2i dX6_chooses_129 ?_
        refine e_callV (ci := 6) (st := []) (st1 := []) (As := [.int (nI (5 * c)), .int ((upd kf (7 + p) (nI b)) (0)), .int (nI p), .int (nI b), .int (cls (upd kf (7 + p) (nI b)) (stnd kf vf b)), .int ((key (upd kf (7 + p) (nI b)) vf (stnd kf vf b)).toInt32)]) (m_puts hX (by omega)) dX6_chooses_130 (by decide) cm_X6_puts lk_X6_136 im_X6_puts rfl sel_X6_puts hX.1 rfl rfl (Nat.le_of_ble_eq_true rfl) rfl ?_
        refine e_aload_n 3 dX6_chooses_133 rfl ?_
        refine e_mk hX dX6_chooses_134 fl_X6_8 ?_
        refine e_ic (nI 3) dX6_chooses_137 (by decide) ?_
        refine e_dup2 dX6_chooses_138 rfl rfl ?_
        refine e_kld hX dX6_chooses_139 (by omega) (e_iv (w := nI c) (by rw [ptF_at _ _ _ _ _ _ _ (by decide), upd_ne _ _ (by omega)]; exact hr) ?_)
        refine e_ic (nI 1) dX6_chooses_140 (by decide) ?_
        refine e_iaddN dX6_chooses_141 ?_
        refine e_kst hX dX6_chooses_142 (by omega) ?_
        exact e_retV dX6_chooses_143 rfl rfl (by rw [chF, nT_of hn hn2, pick, ← show i = n by omega, ← hB]; dsimp only; rw [hr, nI_clamp (show c < 2 ^ 31 by omega)])
    | succ k ih =>
      intro i B hi hB hB2
      have g1 : stnd kf vf i < 200 := stnd_lt (by omega) hn hn2
      cases B with
      | none =>
        refine e_lvs (lv' := [(4, .int (nI i)), (3, .int (-1)), (2, .int (-1)), (0, .ref X.1), (1, .int (nI p))]) rfl ?_
        refine e_iload 0 dX6_chooses_7 rfl ?_
        refine e_aload_n 3 dX6_chooses_9 rfl ?_
        refine e_mk hX dX6_chooses_10 fl_X6_8 ?_
        refine e_ic (nI 1) dX6_chooses_13 (by decide) ?_
        refine e_kld hX dX6_chooses_14 (by omega) (e_iv (w := nI n) (hn) ?_)
        refine e_icmp_geN 76 dX6_chooses_15 (by decide) (by omega) (by omega) (fun h => absurd h (by omega)) (fun _ => ?_)
        refine e_aload_n 3 dX6_chooses_18 rfl ?_
        refine e_iload 0 dX6_chooses_19 rfl ?_
        refine e_bipush (v := nI 6) dX6_chooses_21 (by decide) ?_
        refine e_callV (ci := 6) (st := []) (st1 := [.int (kg kf i 6)]) (As := [.int (nI i), .int (nI 6)]) (m_get hX (kg_lt (by omega) (by omega))) dX6_chooses_23 (by decide) cm_X6_get lk_X6_36 im_X6_get rfl sel_X6_get hX.1 rfl rfl (Nat.le_of_ble_eq_true rfl) rfl ?_
        refine e_if_ne 70 dX6_chooses_26 (by decide) (fun q1 => ?_) (fun q1 => ?_)
        · skip
          refine e_iinc1N (lv' := [(4, .int (nI (i + 1))), (3, .int (-1)), (2, .int (-1)), (0, .ref X.1), (1, .int (nI p))]) 0 dX6_chooses_70 rfl (by decide) rfl ?_
          refine e_goto 7 dX6_chooses_73 (by decide) ?_
          refine e_sub [0, 1, 2, 3, 4] rfl ?_
          exact ih (i + 1) none (by omega) (by show none = pkS kf vf (rdP kf lf) i (lp (pkS kf vf (rdP kf lf)) i none); rw [← hB, pkS, if_neg (by simp [rdP, q1])]) hB2
        · skip
          refine e_aload_n 3 dX6_chooses_29 rfl ?_
          refine e_ml hX dX6_chooses_30 fl_X6_28 ?_
          refine e_iload 0 dX6_chooses_33 rfl ?_
          refine e_lld hX dX6_chooses_35 (by omega) ?_
          refine e_if_eq 42 dX6_chooses_36 (by decide) (fun q2 => ?_) (fun q2 => ?_)
          · skip
            refine e_aload_n 3 dX6_chooses_42 rfl ?_
            refine e_iload 0 dX6_chooses_43 rfl ?_
            refine e_callV (ci := 6) (st := []) (st1 := [.int (nI (stnd kf vf i))]) (As := [.int (nI i)]) (m_standingOf hX (by omega) hn hn2 hC) dX6_chooses_45 (by decide) cm_X6_standingOf lk_X6_67 im_X6_standingOf rfl sel_X6_standingOf hX.1 rfl rfl (Nat.le_of_ble_eq_true rfl) rfl ?_
            refine e_istore (lv' := [(5, .int (nI (stnd kf vf i))), (4, .int (nI i)), (3, .int (-1)), (2, .int (-1)), (0, .ref X.1), (1, .int (nI p))]) dX6_chooses_48 (by decide) rfl ?_
            refine e_iload_n 3 dX6_chooses_50 rfl ?_
            refine e_if_lt 64 dX6_chooses_51 (by decide) (fun _ => ?_) (fun h => absurd h (by decide))
            refine e_iload 1 dX6_chooses_64 rfl ?_
            refine e_istore_n (lv' := [(2, .int (nI i)), (5, .int (nI (stnd kf vf i))), (4, .int (nI i)), (3, .int (-1)), (0, .ref X.1), (1, .int (nI p))]) dX6_chooses_66 (by decide) rfl ?_
            refine e_iload 1 dX6_chooses_67 rfl ?_
            refine e_istore_n (lv' := [(3, .int (nI (stnd kf vf i))), (2, .int (nI i)), (5, .int (nI (stnd kf vf i))), (4, .int (nI i)), (0, .ref X.1), (1, .int (nI p))]) dX6_chooses_69 (by decide) rfl ?_
            refine e_iinc1N (lv' := [(4, .int (nI (i + 1))), (3, .int (nI (stnd kf vf i))), (2, .int (nI i)), (5, .int (nI (stnd kf vf i))), (0, .ref X.1), (1, .int (nI p))]) 3 dX6_chooses_70 rfl (by decide) rfl ?_
            refine e_goto 7 dX6_chooses_73 (by decide) ?_
            refine e_sub [0, 1, 2, 4, 5] rfl ?_
            exact ih (i + 1) (some i) (by omega) (by show some i = pkS kf vf (rdP kf lf) i (lp (pkS kf vf (rdP kf lf)) i none); rw [← hB, pkS, if_pos (by simp [rdP, q1, q2])]) (fun c hc => by cases hc; omega)
          · skip
            refine e_goto 70 dX6_chooses_39 (by decide) ?_
            refine e_iinc1N (lv' := [(4, .int (nI (i + 1))), (3, .int (-1)), (2, .int (-1)), (0, .ref X.1), (1, .int (nI p))]) 0 dX6_chooses_70 rfl (by decide) rfl ?_
            refine e_goto 7 dX6_chooses_73 (by decide) ?_
            refine e_sub [0, 1, 2, 3, 4] rfl ?_
            exact ih (i + 1) none (by omega) (by show none = pkS kf vf (rdP kf lf) i (lp (pkS kf vf (rdP kf lf)) i none); rw [← hB, pkS, if_neg (by simp [rdP, q2])]) hB2
      | some b =>
        have hb := hB2 b rfl
        have g2 : stnd kf vf b < 200 := stnd_lt hb hn hn2
        refine e_lvs (lv' := [(4, .int (nI i)), (3, .int (nI (stnd kf vf b))), (2, .int (nI b)), (0, .ref X.1), (1, .int (nI p))]) rfl ?_
        refine e_iload 0 dX6_chooses_7 rfl ?_
        refine e_aload_n 3 dX6_chooses_9 rfl ?_
        refine e_mk hX dX6_chooses_10 fl_X6_8 ?_
        refine e_ic (nI 1) dX6_chooses_13 (by decide) ?_
        refine e_kld hX dX6_chooses_14 (by omega) (e_iv (w := nI n) (hn) ?_)
        refine e_icmp_geN 76 dX6_chooses_15 (by decide) (by omega) (by omega) (fun h => absurd h (by omega)) (fun _ => ?_)
        refine e_aload_n 3 dX6_chooses_18 rfl ?_
        refine e_iload 0 dX6_chooses_19 rfl ?_
        refine e_bipush (v := nI 6) dX6_chooses_21 (by decide) ?_
        refine e_callV (ci := 6) (st := []) (st1 := [.int (kg kf i 6)]) (As := [.int (nI i), .int (nI 6)]) (m_get hX (kg_lt (by omega) (by omega))) dX6_chooses_23 (by decide) cm_X6_get lk_X6_36 im_X6_get rfl sel_X6_get hX.1 rfl rfl (Nat.le_of_ble_eq_true rfl) rfl ?_
        refine e_if_ne 70 dX6_chooses_26 (by decide) (fun q1 => ?_) (fun q1 => ?_)
        · skip
          refine e_iinc1N (lv' := [(4, .int (nI (i + 1))), (3, .int (nI (stnd kf vf b))), (2, .int (nI b)), (0, .ref X.1), (1, .int (nI p))]) 0 dX6_chooses_70 rfl (by decide) rfl ?_
          refine e_goto 7 dX6_chooses_73 (by decide) ?_
          refine e_sub [0, 1, 2, 3, 4] rfl ?_
          exact ih (i + 1) (some b) (by omega) (by show some b = pkS kf vf (rdP kf lf) i (lp (pkS kf vf (rdP kf lf)) i none); rw [← hB, pkS, if_neg (by simp [rdP, q1])]) hB2
        · skip
          refine e_aload_n 3 dX6_chooses_29 rfl ?_
          refine e_ml hX dX6_chooses_30 fl_X6_28 ?_
          refine e_iload 0 dX6_chooses_33 rfl ?_
          refine e_lld hX dX6_chooses_35 (by omega) ?_
          refine e_if_eq 42 dX6_chooses_36 (by decide) (fun q2 => ?_) (fun q2 => ?_)
          · skip
            refine e_aload_n 3 dX6_chooses_42 rfl ?_
            refine e_iload 0 dX6_chooses_43 rfl ?_
            refine e_callV (ci := 6) (st := []) (st1 := [.int (nI (stnd kf vf i))]) (As := [.int (nI i)]) (m_standingOf hX (by omega) hn hn2 hC) dX6_chooses_45 (by decide) cm_X6_standingOf lk_X6_67 im_X6_standingOf rfl sel_X6_standingOf hX.1 rfl rfl (Nat.le_of_ble_eq_true rfl) rfl ?_
            refine e_istore (lv' := [(5, .int (nI (stnd kf vf i))), (4, .int (nI i)), (3, .int (nI (stnd kf vf b))), (2, .int (nI b)), (0, .ref X.1), (1, .int (nI p))]) dX6_chooses_48 (by decide) rfl ?_
            refine e_iload_n 3 dX6_chooses_50 rfl ?_
            refine e_if_lt 64 dX6_chooses_51 (by decide) (fun h => absurd h (nI_pos (by omega))) (fun _ => ?_)
            refine e_aload_n 4 dX6_chooses_54 rfl ?_
            refine e_iload 0 dX6_chooses_55 rfl ?_
            refine e_iload_n 2 dX6_chooses_57 rfl ?_
            refine e_callV (ci := 6) (st := []) (st1 := [.int (bI (ahead kf vf (stnd kf vf i) (stnd kf vf b)))]) (As := [.int (nI (stnd kf vf i)), .int (nI (stnd kf vf b))]) (m_isAhead hX (by omega) (by omega)) dX6_chooses_58 (by decide) cm_X6_isAhead lk_X6_55 im_X6_isAhead rfl sel_X6_isAhead hX.1 rfl rfl (Nat.le_of_ble_eq_true rfl) rfl ?_
            refine e_if_eqB 70 dX6_chooses_61 (by decide) (fun q4 => ?_) (fun q4 => ?_)
            · skip
              refine e_iinc1N (lv' := [(4, .int (nI (i + 1))), (5, .int (nI (stnd kf vf i))), (3, .int (nI (stnd kf vf b))), (2, .int (nI b)), (0, .ref X.1), (1, .int (nI p))]) 1 dX6_chooses_70 rfl (by decide) rfl ?_
              refine e_goto 7 dX6_chooses_73 (by decide) ?_
              refine e_sub [0, 2, 3, 4, 5] rfl ?_
              exact ih (i + 1) (some b) (by omega) (by show some b = pkS kf vf (rdP kf lf) i (lp (pkS kf vf (rdP kf lf)) i none); rw [← hB, pkS, if_pos (by simp [rdP, q1, q2])]; rw [if_neg (by rw [q4]; decide)]) hB2
            · skip
              refine e_iload 1 dX6_chooses_64 rfl ?_
              refine e_istore_n (lv' := [(2, .int (nI i)), (5, .int (nI (stnd kf vf i))), (4, .int (nI i)), (3, .int (nI (stnd kf vf b))), (0, .ref X.1), (1, .int (nI p))]) dX6_chooses_66 (by decide) rfl ?_
              refine e_iload 1 dX6_chooses_67 rfl ?_
              refine e_istore_n (lv' := [(3, .int (nI (stnd kf vf i))), (2, .int (nI i)), (5, .int (nI (stnd kf vf i))), (4, .int (nI i)), (0, .ref X.1), (1, .int (nI p))]) dX6_chooses_69 (by decide) rfl ?_
              refine e_iinc1N (lv' := [(4, .int (nI (i + 1))), (3, .int (nI (stnd kf vf i))), (2, .int (nI i)), (5, .int (nI (stnd kf vf i))), (0, .ref X.1), (1, .int (nI p))]) 3 dX6_chooses_70 rfl (by decide) rfl ?_
              refine e_goto 7 dX6_chooses_73 (by decide) ?_
              refine e_sub [0, 1, 2, 4, 5] rfl ?_
              exact ih (i + 1) (some i) (by omega) (by show some i = pkS kf vf (rdP kf lf) i (lp (pkS kf vf (rdP kf lf)) i none); rw [← hB, pkS, if_pos (by simp [rdP, q1, q2])]; rw [if_pos q4]) (fun c hc => by cases hc; omega)
          · skip
            refine e_goto 70 dX6_chooses_39 (by decide) ?_
            refine e_iinc1N (lv' := [(4, .int (nI (i + 1))), (3, .int (nI (stnd kf vf b))), (2, .int (nI b)), (0, .ref X.1), (1, .int (nI p))]) 0 dX6_chooses_70 rfl (by decide) rfl ?_
            refine e_goto 7 dX6_chooses_73 (by decide) ?_
            refine e_sub [0, 1, 2, 3, 4] rfl ?_
            exact ih (i + 1) (some b) (by omega) (by show some b = pkS kf vf (rdP kf lf) i (lp (pkS kf vf (rdP kf lf)) i none); rw [← hB, pkS, if_neg (by simp [rdP, q2])]) hB2
  refine e_lvs (lv' := [(0, .ref X.1), (1, .int (nI p))]) rfl ?_
  refine e_ic ((-1)) dX6_chooses_0 (by decide) ?_
  refine e_istore_n (lv' := [(2, .int (-1)), (0, .ref X.1), (1, .int (nI p))]) dX6_chooses_1 (by decide) rfl ?_
  refine e_ic ((-1)) dX6_chooses_2 (by decide) ?_
  refine e_istore_n (lv' := [(3, .int (-1)), (2, .int (-1)), (0, .ref X.1), (1, .int (nI p))]) dX6_chooses_3 (by decide) rfl ?_
  refine e_ic (nI 0) dX6_chooses_4 (by decide) ?_
  refine e_istore (lv' := [(4, .int (nI 0)), (3, .int (-1)), (2, .int (-1)), (0, .ref X.1), (1, .int (nI p))]) dX6_chooses_5 (by decide) rfl ?_
  refine e_sub [0, 1, 2, 3, 4] rfl ?_
  exact L n 0 none (by omega) rfl (fun c hc => by cases hc)
end Model14
