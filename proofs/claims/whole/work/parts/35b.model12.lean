/-! the reference: ends, act -/
section Model12
variable {G : GG} {m : Mem} {X : XX} {kf : KF} {vf : VF} {lf : Nat → Int32}
set_option maxRecDepth 100000 in
set_option maxHeartbeats 4000000 in
theorem m_ends (hX : MW m X) {n t : Nat} {q : Int32} (hW : WF kf n) (ht : t < n) : Ev G 7 uX6_ends [.ref X.1, .int (nI t), .int q] (MM m X (kf, vf, lf)) none (MM m X (edF kf vf t q, vf, lf)) := by
  have hn2 := hW.1.2
  refine Ev.of (by decide +kernel) (Nat.le_of_ble_eq_true rfl) ?_
  have L : ∀ (k l : Nat), l + k = 100 → EvB G 7 uX6_ends (zz (MM m X (kf, vf, lf))) (nn (MM m X (kf, vf, lf))) none (MM m X (edF kf vf t q, vf, lf)) 23 [(3, .int (nI l)), (0, .ref X.1), (1, .int (nI t)), (2, .int q)] [] (MM m X ((edL kf vf t q l), vf, lf)) := by
    intro k
    induction k with
    | zero =>
      intro l hl
      refine e_iload_n 0 dX6_ends_23 rfl ?_
      refine e_bipush (v := nI 100) dX6_ends_24 (by decide) ?_
      refine e_icmp_geN 68 dX6_ends_26 (by decide) (by omega) (by omega) (fun _ => ?_) (fun h => absurd h (by omega))
      have e1 : l = 100 := by omega
      subst e1
      exact e_retV dX6_ends_68 rfl rfl rfl
    | succ k ih =>
      intro l hl
      have hI := wf_edL (vf := vf) (q := q) hW ht l (by omega)
      refine e_iload_n 0 dX6_ends_23 rfl ?_
      refine e_bipush (v := nI 100) dX6_ends_24 (by decide) ?_
      refine e_icmp_geN 68 dX6_ends_26 (by decide) (by omega) (by omega) (fun h => absurd h (by omega)) (fun _ => ?_)
      refine e_aload_n 1 dX6_ends_29 rfl ?_
      refine e_mk hX dX6_ends_30 fl_X6_8 ?_
      refine e_sipush (v := nI 240) dX6_ends_33 (by decide) ?_
      refine e_iload_n 0 dX6_ends_36 rfl ?_
      refine e_iaddN dX6_ends_37 ?_
      refine e_kld hX dX6_ends_38 (by omega) ?_
      refine e_iload_n 2 dX6_ends_39 rfl ?_
      refine e_icmp_eq 46 dX6_ends_40 (by decide) (fun h1 => ?_) (fun h1 => ?_)
      · skip
        refine e_aload_n 1 dX6_ends_46 rfl ?_
        refine e_mk hX dX6_ends_47 fl_X6_8 ?_
        refine e_sipush (v := nI 240) dX6_ends_50 (by decide) ?_
        refine e_iload_n 0 dX6_ends_53 rfl ?_
        refine e_iaddN dX6_ends_54 ?_
        refine e_ic ((-1)) dX6_ends_55 (by decide) ?_
        refine e_kst hX dX6_ends_56 (by omega) ?_
        refine e_aload_n 1 dX6_ends_57 rfl ?_
        refine e_iload_n 0 dX6_ends_58 rfl ?_
        refine e_callV (ci := 6) (st := []) (st1 := []) (As := [.int (nI l)]) (m_passes hX (n := n) (by omega) (by rw [upd_ne _ _ (by omega)]; exact hI.1.1) hI.1.2 (ch_upd hI.ch (by omega) (by decide))) dX6_ends_59 (by decide) cm_X6_passes lk_X6_73 im_X6_passes rfl sel_X6_passes hX.1 rfl rfl (Nat.le_of_ble_eq_true rfl) rfl ?_
        refine e_iinc1N (lv' := [(3, .int (nI (l + 1))), (0, .ref X.1), (1, .int (nI t)), (2, .int q)]) 0 dX6_ends_62 rfl (by decide) rfl ?_
        refine e_goto 23 dX6_ends_65 (by decide) ?_
        refine e_sub [0, 1, 2, 3] rfl ?_
        refine e_mem (m' := MM m X (edL kf vf t q (l + 1), vf, lf)) (by show _ = MM m X (edS vf t l (edL kf vf t q l), vf, lf); rw [edS, if_pos h1]) ?_
        exact ih (l + 1) (by omega)
      · skip
        refine e_goto 62 dX6_ends_43 (by decide) ?_
        refine e_iinc1N (lv' := [(3, .int (nI (l + 1))), (0, .ref X.1), (1, .int (nI t)), (2, .int q)]) 0 dX6_ends_62 rfl (by decide) rfl ?_
        refine e_goto 23 dX6_ends_65 (by decide) ?_
        refine e_sub [0, 1, 2, 3] rfl ?_
        refine e_mem (m' := MM m X (edL kf vf t q (l + 1), vf, lf)) (by show _ = MM m X (edS vf t l (edL kf vf t q l), vf, lf); rw [edS, if_neg h1]) ?_
        exact ih (l + 1) (by omega)
  refine e_lvs (lv' := [(0, .ref X.1), (1, .int (nI t)), (2, .int q)]) rfl ?_
  refine e_aload_n 0 dX6_ends_0 rfl ?_
  refine e_iload_n 1 dX6_ends_1 rfl ?_
  refine e_callV (ci := 6) (st := []) (st1 := []) (As := [.int (nI t)]) (m_isReadyNow hX (by omega)) dX6_ends_2 (by decide) cm_X6_isReadyNow lk_X6_70 im_X6_isReadyNow rfl sel_X6_isReadyNow hX.1 rfl rfl (Nat.le_of_ble_eq_true rfl) rfl ?_
  refine e_aload_n 0 dX6_ends_5 rfl ?_
  refine e_iload_n 1 dX6_ends_6 rfl ?_
  refine e_bipush (v := nI 6) dX6_ends_7 (by decide) ?_
  refine e_ic (nI 4) dX6_ends_9 (by decide) ?_
  refine e_callV (ci := 6) (st := []) (st1 := []) (As := [.int (nI t), .int (nI 6), .int (nI 4)]) (m_set hX (kg_lt (by omega) (by decide))) dX6_ends_10 (by decide) cm_X6_set lk_X6_59 im_X6_set rfl sel_X6_set hX.1 rfl rfl (Nat.le_of_ble_eq_true rfl) rfl ?_
  refine e_aload_n 0 dX6_ends_13 rfl ?_
  refine e_iload_n 1 dX6_ends_14 rfl ?_
  refine e_bipush (v := nI 9) dX6_ends_15 (by decide) ?_
  refine e_iload_n 2 dX6_ends_17 rfl ?_
  refine e_callV (ci := 6) (st := []) (st1 := []) (As := [.int (nI t), .int (nI 9), .int q]) (m_set hX (kg_lt (by omega) (by decide))) dX6_ends_18 (by decide) cm_X6_set lk_X6_59 im_X6_set rfl sel_X6_set hX.1 rfl rfl (Nat.le_of_ble_eq_true rfl) rfl ?_
  refine e_ic (nI 0) dX6_ends_21 (by decide) ?_
  refine e_istore_n (lv' := [(3, .int (nI 0)), (0, .ref X.1), (1, .int (nI t)), (2, .int q)]) dX6_ends_22 (by decide) rfl ?_
  refine e_sub [0, 1, 2, 3] rfl ?_
  exact L 100 0 (by omega)
set_option maxRecDepth 100000 in
set_option maxHeartbeats 4000000 in
theorem m_act (hX : MW m X) {n t : Nat} (hW : WF kf n) (ht : t < n) : Ev G 8 uX6_act [.ref X.1, .int (nI t)] (MM m X (kf, vf, lf)) (some (.int (actF kf vf t).1)) (MM m X ((actF kf vf t).2.1, (actF kf vf t).2.2, lf)) := by
  obtain ⟨hn, hn2⟩ := hW.1
  obtain ⟨⟨p, hp, ep⟩, -, ⟨a, ha, ea⟩, -⟩ := hW.2.2.2.2.1 t ht
  have hL := hW.2.2.2.2.2.1
  have hBY := hW.2.2.2.2.2.2.1
  refine Ev.of (by decide +kernel) (Nat.le_of_ble_eq_true rfl) ?_
  refine e_lvs (lv' := [(0, .ref X.1), (1, .int (nI t))]) rfl ?_
  refine e_aload_n 0 dX6_act_0 rfl ?_
  refine e_iload_n 1 dX6_act_1 rfl ?_
  refine e_ic (nI 1) dX6_act_2 (by decide) ?_
  refine e_callV (ci := 6) (st := []) (st1 := [.int (kg kf t 1)]) (As := [.int (nI t), .int (nI 1)]) (m_get hX (kg_lt (by omega) (by omega))) dX6_act_3 (by decide) cm_X6_get lk_X6_36 im_X6_get rfl sel_X6_get hX.1 rfl rfl (Nat.le_of_ble_eq_true rfl) rfl ?_
  refine e_iv (w := nI p) ep ?_
  refine e_istore_n (lv' := [(2, .int (nI p)), (0, .ref X.1), (1, .int (nI t))]) dX6_act_6 (by decide) rfl ?_
  refine e_aload_n 1 dX6_act_7 rfl ?_
  refine e_iload_n 2 dX6_act_8 rfl ?_
  refine e_ic (nI 5) dX6_act_9 (by decide) ?_
  refine e_callV (ci := 6) (st := []) (st1 := [.int (kg kf t 5)]) (As := [.int (nI t), .int (nI 5)]) (m_get hX (kg_lt (by omega) (by omega))) dX6_act_10 (by decide) cm_X6_get lk_X6_36 im_X6_get rfl sel_X6_get hX.1 rfl rfl (Nat.le_of_ble_eq_true rfl) rfl ?_
  refine e_iv (w := nI a) ea ?_
  refine e_istore_n (lv' := [(3, .int (nI a)), (2, .int (nI p)), (0, .ref X.1), (1, .int (nI t))]) dX6_act_13 (by decide) rfl ?_
  refine e_aload_n 2 dX6_act_14 rfl ?_
  refine e_mk hX dX6_act_15 fl_X6_8 ?_
  refine e_sipush (v := nI 340) dX6_act_18 (by decide) ?_
  refine e_iload_n 1 dX6_act_21 rfl ?_
  refine e_iaddN dX6_act_22 ?_
  refine e_kld hX dX6_act_23 (by omega) ?_
  refine e_istore (lv' := [(4, .int (kf (340 + p))), (3, .int (nI a)), (2, .int (nI p)), (0, .ref X.1), (1, .int (nI t))]) dX6_act_24 (by decide) rfl ?_
  refine e_iload 0 dX6_act_26 rfl ?_
  refine e_if_ge 33 dX6_act_28 (by decide) (fun g1 => ?_) (fun g1 => ?_)
  · skip
    have g1' := Int32.not_lt.mpr g1
    obtain ⟨c, hc, ec⟩ : ∃ c, c ≤ 1000 ∧ kf (340 + p) = nI c := (hL p hp).elim (fun z => absurd g1 (by rw [z]; decide)) id
    have ecp : plen kf p = c := by rw [plen, ec, nI_clamp (by omega)]
    refine e_lvs (lv' := [(4, .int (nI c)), (3, .int (nI a)), (2, .int (nI p)), (0, .ref X.1), (1, .int (nI t))]) (by rw [ec]) ?_
    refine e_iload_n 1 dX6_act_33 rfl ?_
    refine e_iload 0 dX6_act_34 rfl ?_
    refine e_icmp_ltN 41 dX6_act_36 (by decide) (by omega) (by omega) (fun g2 => ?_) (fun g2 => ?_)
    · skip
      have g2' := Nat.not_le.mpr g2
      refine e_aload_n 3 dX6_act_41 rfl ?_
      refine e_mk hX dX6_act_42 fl_X6_8 ?_
      refine e_sipush (v := nI 30000) dX6_act_45 (by decide) ?_
      refine e_sipush (v := nI 1000) dX6_act_48 (by decide) ?_
      refine e_iload_n 2 dX6_act_51 rfl ?_
      refine e_imulN dX6_act_52 ?_
      refine e_iaddN dX6_act_53 ?_
      refine e_iload_n 1 dX6_act_54 rfl ?_
      refine e_iaddN dX6_act_55 ?_
      refine e_kld hX dX6_act_56 (by omega) ?_
      refine e_istore (lv' := [(5, .int (kf ((30000 + (1000 * p)) + a))), (4, .int (nI c)), (3, .int (nI a)), (2, .int (nI p)), (0, .ref X.1), (1, .int (nI t))]) dX6_act_57 (by decide) rfl ?_
      obtain ⟨op, hop⟩ : ∃ x : Int32, x = kf (30000 + 1000 * p + a) := ⟨_, rfl⟩
      rw [← hop]
      refine e_iload 0 dX6_act_59 rfl ?_
      refine e_i2l dX6_act_61 ?_
      refine e_lconst (v := lN 0) dX6_act_62 (by decide) ?_
      refine e_ldc2 dX6_act_63 cs_X6_89 ?_
      refine e_lv (w := lN 12) (by decide) ?_
      refine e_callS (st := []) (st1 := [.int (bI (inI op (nI 0) (nI 12)))]) (As := [.long op.toInt64, .long (lN 0), .long (lN 12)]) (m_isInI (x := op) (lo := (nI 0)) (hi := (nI 12)) rfl ((nI_l (by omega)).symm) ((nI_l (by omega)).symm) _) dX6_act_66 (by decide) cm_X6_isIn lk_X6_32 sm_X6_isIn rfl rfl (Nat.le_of_ble_eq_true rfl) rfl ?_
      refine e_if_neB 75 dX6_act_69 (by decide) (fun g3 => ?_) (fun g3 => ?_)
      · skip
        refine e_iload 0 dX6_act_75 rfl ?_
        refine e_if_ne 83 dX6_act_77 (by decide) (fun g4 => ?_) (fun g4 => ?_)
        · skip
          refine e_iload_n 2 dX6_act_83 rfl ?_
          refine e_ic (nI 1) dX6_act_84 (by decide) ?_
          refine e_iaddN dX6_act_85 ?_
          refine e_iload 1 dX6_act_86 rfl ?_
          refine e_icmp_ltN 93 dX6_act_88 (by decide) (by omega) (by omega) (fun g5 => ?_) (fun g5 => ?_)
          · skip
            have g5' := Nat.not_le.mpr g5
            refine e_aload_n 4 dX6_act_93 rfl ?_
            refine e_mk hX dX6_act_94 fl_X6_8 ?_
            refine e_sipush (v := nI 30000) dX6_act_97 (by decide) ?_
            refine e_sipush (v := nI 1000) dX6_act_100 (by decide) ?_
            refine e_iload_n 3 dX6_act_103 rfl ?_
            refine e_imulN dX6_act_104 ?_
            refine e_iaddN dX6_act_105 ?_
            refine e_iload_n 2 dX6_act_106 rfl ?_
            refine e_iaddN dX6_act_107 ?_
            refine e_ic (nI 1) dX6_act_108 (by decide) ?_
            refine e_iaddN dX6_act_109 ?_
            refine e_kld hX dX6_act_110 (by omega) ?_
            refine e_istore (lv' := [(6, .int (kf (((30000 + (1000 * p)) + a) + 1))), (5, .int op), (4, .int (nI c)), (3, .int (nI a)), (2, .int (nI p)), (0, .ref X.1), (1, .int (nI t))]) dX6_act_111 (by decide) rfl ?_
            obtain ⟨qn, hqn⟩ : ∃ x : Int32, x = kf (30000 + 1000 * p + a + 1) := ⟨_, rfl⟩
            rw [← hqn]
            have hq7 : qn ≤ nI 127 := by rw [hqn, show 30000 + 1000 * p + a + 1 = 30000 + (1000 * p + a + 1) by omega]; exact hBY (1000 * p + a + 1) (by omega)
            have eA : actF kf vf t = acO kf vf t op qn := by rw [act_G ep ea (by omega) (by omega), acG, if_neg g1', ecp, if_pos g2, ← hop, if_pos g3, if_neg g4, if_pos g5, ← hqn]
            refine e_iload 1 dX6_act_113 rfl ?_
            by_cases hsw : inI op (nI 1) (nI 11) = true
            · skip
              obtain ⟨jsw, hsw1, hsw2, rfl⟩ := inI_n (by decide) (by decide) hsw
              rcases (show jsw = 1 ∨ jsw = 2 ∨ jsw = 3 ∨ jsw = 4 ∨ jsw = 5 ∨ jsw = 6 ∨ jsw = 7 ∨ jsw = 8 ∨ jsw = 9 ∨ jsw = 10 ∨ jsw = 11 by omega) with rfl | rfl | rfl | rfl | rfl | rfl | rfl | rfl | rfl | rfl | rfl
              · skip
                refine e_tabIn (off := 57) 172 dX6_act_115 (by decide) (by decide) (by decide) (by decide) ?_
                refine e_iload 0 dX6_act_172 rfl ?_
                refine e_if_le 185 dX6_act_174 (by decide) (fun h1 => ?_) (fun h1 => ?_)
                · skip
                  have h1' := Int32.not_lt.mpr h1
                  refine e_ic (nI 0) dX6_act_185 (by decide) ?_
                  exact e_retI dX6_act_186 rfl rfl (by rw [eA, acO, if_pos (show nI 1 = 1 by decide)] <;> simp [h1, h1']) (by rw [eA, acO, if_pos (show nI 1 = 1 by decide)] <;> simp [h1, h1'])
                · skip
                  have h1' := Int32.not_le.mp h1
                  refine e_aload_n 5 dX6_act_177 rfl ?_
                  refine e_iload_n 6 dX6_act_178 rfl ?_
                  refine e_ic (nI 4) dX6_act_179 (by decide) ?_
                  refine e_iload 0 dX6_act_180 rfl ?_
                  refine e_callV (ci := 6) (st := []) (st1 := []) (As := [.int (nI t), .int (nI 4), .int qn]) (m_set hX (kg_lt (by omega) (by decide))) dX6_act_182 (by decide) cm_X6_set lk_X6_59 im_X6_set rfl sel_X6_set hX.1 rfl rfl (Nat.le_of_ble_eq_true rfl) rfl ?_
                  refine e_ic (nI 0) dX6_act_185 (by decide) ?_
                  exact e_retI dX6_act_186 rfl rfl (by rw [eA, acO, if_pos (show nI 1 = 1 by decide)] <;> simp [h1, h1']) (by rw [eA, acO, if_pos (show nI 1 = 1 by decide)] <;> simp [h1, h1'])
              · skip
                refine e_tabIn (off := 72) 187 dX6_act_115 (by decide) (by decide) (by decide) (by decide) ?_
                refine e_aload_n 5 dX6_act_187 rfl ?_
                refine e_iload_n 6 dX6_act_188 rfl ?_
                refine e_iload 0 dX6_act_189 rfl ?_
                refine e_callV (ci := 6) (st := []) (st1 := [.int ((tkF kf t qn).1)]) (As := [.int (nI t), .int qn]) (m_takesLock hX (by omega) hn2 hW.ch hW.2.2.1 (wf_end hW t)) dX6_act_191 (by decide) cm_X6_takesLock lk_X6_91 im_X6_takesLock rfl sel_X6_takesLock hX.1 rfl rfl (Nat.le_of_ble_eq_true rfl) rfl ?_
                exact e_retI dX6_act_194 rfl rfl (by rw [eA, acO, if_neg (show ¬ nI 2 = 1 by decide), if_pos (show nI 2 = 2 by decide)]) (by rw [eA, acO, if_neg (show ¬ nI 2 = 1 by decide), if_pos (show nI 2 = 2 by decide)])
              · skip
                refine e_tabIn (off := 80) 195 dX6_act_115 (by decide) (by decide) (by decide) (by decide) ?_
                refine e_aload_n 5 dX6_act_195 rfl ?_
                refine e_iload_n 6 dX6_act_196 rfl ?_
                refine e_iload 0 dX6_act_197 rfl ?_
                refine e_callV (ci := 6) (st := []) (st1 := [.int ((gvF kf vf t qn).1)]) (As := [.int (nI t), .int qn]) (m_givesLock hX (by omega) hn hn2 (fun j hj _ => ch_upd hW.ch hj (by decide))) dX6_act_199 (by decide) cm_X6_givesLock lk_X6_94 im_X6_givesLock rfl sel_X6_givesLock hX.1 rfl rfl (Nat.le_of_ble_eq_true rfl) rfl ?_
                exact e_retI dX6_act_202 rfl rfl (by rw [eA, acO, if_neg (show ¬ nI 3 = 1 by decide), if_neg (show ¬ nI 3 = 2 by decide), if_pos (show nI 3 = 3 by decide)]) (by rw [eA, acO, if_neg (show ¬ nI 3 = 1 by decide), if_neg (show ¬ nI 3 = 2 by decide), if_pos (show nI 3 = 3 by decide)])
              · skip
                refine e_tabIn (off := 88) 203 dX6_act_115 (by decide) (by decide) (by decide) (by decide) ?_
                refine e_iload 0 dX6_act_203 rfl ?_
                refine e_i2l dX6_act_205 ?_
                refine e_lconst (v := lN 0) dX6_act_206 (by decide) ?_
                refine e_ldc2 dX6_act_207 cs_X6_97 ?_
                refine e_lv (w := lN 15) (by decide) ?_
                refine e_callS (st := []) (st1 := [.int (bI (inI qn (nI 0) (nI 15)))]) (As := [.long qn.toInt64, .long (lN 0), .long (lN 15)]) (m_isInI (x := qn) (lo := (nI 0)) (hi := (nI 15)) rfl ((nI_l (by omega)).symm) ((nI_l (by omega)).symm) _) dX6_act_210 (by decide) cm_X6_isIn lk_X6_32 sm_X6_isIn rfl rfl (Nat.le_of_ble_eq_true rfl) rfl ?_
                refine e_if_neB 219 dX6_act_213 (by decide) (fun h2 => ?_) (fun h2 => ?_)
                · skip
                  refine e_aload_n 5 dX6_act_219 rfl ?_
                  refine e_iload_n 6 dX6_act_220 rfl ?_
                  refine e_ic (nI 2) dX6_act_221 (by decide) ?_
                  refine e_iload 0 dX6_act_222 rfl ?_
                  refine e_ic ((-1)) dX6_act_224 (by decide) ?_
                  refine e_callV (ci := 6) (st := []) (st1 := []) (As := [.int (nI t), .int (nI 2), .int qn, .int (-1)]) (m_waits hX (by omega)) dX6_act_225 (by decide) cm_X6_waits lk_X6_99 im_X6_waits rfl sel_X6_waits hX.1 rfl rfl (Nat.le_of_ble_eq_true rfl) rfl ?_
                  refine e_ic ((-1)) dX6_act_228 (by decide) ?_
                  exact e_retI dX6_act_229 rfl rfl (by rw [eA, acO, if_neg (show ¬ nI 4 = 1 by decide), if_neg (show ¬ nI 4 = 2 by decide), if_neg (show ¬ nI 4 = 3 by decide), if_pos (show nI 4 = 4 by decide)] <;> simp [h2]) (by rw [eA, acO, if_neg (show ¬ nI 4 = 1 by decide), if_neg (show ¬ nI 4 = 2 by decide), if_neg (show ¬ nI 4 = 3 by decide), if_pos (show nI 4 = 4 by decide)] <;> simp [h2])
                · skip
                  refine e_bipush (v := nI 10) dX6_act_216 (by decide) ?_
                  exact e_retI dX6_act_218 rfl rfl (by rw [eA, acO, if_neg (show ¬ nI 4 = 1 by decide), if_neg (show ¬ nI 4 = 2 by decide), if_neg (show ¬ nI 4 = 3 by decide), if_pos (show nI 4 = 4 by decide)] <;> simp [h2]) (by rw [eA, acO, if_neg (show ¬ nI 4 = 1 by decide), if_neg (show ¬ nI 4 = 2 by decide), if_neg (show ¬ nI 4 = 3 by decide), if_pos (show nI 4 = 4 by decide)] <;> simp [h2])
              · skip
                refine e_tabIn (off := 115) 230 dX6_act_115 (by decide) (by decide) (by decide) (by decide) ?_
                refine e_iload 0 dX6_act_230 rfl ?_
                refine e_i2l dX6_act_232 ?_
                refine e_lconst (v := lN 0) dX6_act_233 (by decide) ?_
                refine e_ldc2 dX6_act_234 cs_X6_97 ?_
                refine e_lv (w := lN 15) (by decide) ?_
                refine e_callS (st := []) (st1 := [.int (bI (inI qn (nI 0) (nI 15)))]) (As := [.long qn.toInt64, .long (lN 0), .long (lN 15)]) (m_isInI (x := qn) (lo := (nI 0)) (hi := (nI 15)) rfl ((nI_l (by omega)).symm) ((nI_l (by omega)).symm) _) dX6_act_237 (by decide) cm_X6_isIn lk_X6_32 sm_X6_isIn rfl rfl (Nat.le_of_ble_eq_true rfl) rfl ?_
                refine e_if_neB 246 dX6_act_240 (by decide) (fun h3 => ?_) (fun h3 => ?_)
                · skip
                  refine e_aload_n 5 dX6_act_246 rfl ?_
                  refine e_iload 0 dX6_act_247 rfl ?_
                  refine e_callV (ci := 6) (st := []) (st1 := [.int (nI ((rgF kf qn).2))]) (As := [.int qn]) (m_ringBell hX hn hn2) dX6_act_249 (by decide) cm_X6_ringBell lk_X6_103 im_X6_ringBell rfl sel_X6_ringBell hX.1 rfl rfl (Nat.le_of_ble_eq_true rfl) rfl ?_
                  refine e_istore (lv' := [(7, .int (nI ((rgF kf qn).2))), (6, .int qn), (5, .int (nI 5)), (4, .int (nI c)), (3, .int (nI a)), (2, .int (nI p)), (0, .ref X.1), (1, .int (nI t))]) dX6_act_252 (by decide) rfl ?_
                  refine e_ic (nI 0) dX6_act_254 (by decide) ?_
                  exact e_retI dX6_act_255 rfl rfl (by rw [eA, acO, if_neg (show ¬ nI 5 = 1 by decide), if_neg (show ¬ nI 5 = 2 by decide), if_neg (show ¬ nI 5 = 3 by decide), if_neg (show ¬ nI 5 = 4 by decide), if_pos (show nI 5 = 5 by decide)] <;> simp [h3]) (by rw [eA, acO, if_neg (show ¬ nI 5 = 1 by decide), if_neg (show ¬ nI 5 = 2 by decide), if_neg (show ¬ nI 5 = 3 by decide), if_neg (show ¬ nI 5 = 4 by decide), if_pos (show nI 5 = 5 by decide)] <;> simp [h3])
                · skip
                  refine e_bipush (v := nI 10) dX6_act_243 (by decide) ?_
                  exact e_retI dX6_act_245 rfl rfl (by rw [eA, acO, if_neg (show ¬ nI 5 = 1 by decide), if_neg (show ¬ nI 5 = 2 by decide), if_neg (show ¬ nI 5 = 3 by decide), if_neg (show ¬ nI 5 = 4 by decide), if_pos (show nI 5 = 5 by decide)] <;> simp [h3]) (by rw [eA, acO, if_neg (show ¬ nI 5 = 1 by decide), if_neg (show ¬ nI 5 = 2 by decide), if_neg (show ¬ nI 5 = 3 by decide), if_neg (show ¬ nI 5 = 4 by decide), if_pos (show nI 5 = 5 by decide)] <;> simp [h3])
              · skip
                refine e_tabIn (off := 141) 256 dX6_act_115 (by decide) (by decide) (by decide) (by decide) ?_
                refine e_iload 0 dX6_act_256 rfl ?_
                refine e_if_gt 263 dX6_act_258 (by decide) (fun h4 => ?_) (fun h4 => ?_)
                · skip
                  have h4' := Int32.not_le.mpr h4
                  refine e_aload_n 5 dX6_act_263 rfl ?_
                  refine e_iload_n 6 dX6_act_264 rfl ?_
                  refine e_ic (nI 3) dX6_act_265 (by decide) ?_
                  refine e_ic ((-1)) dX6_act_266 (by decide) ?_
                  refine e_aload_n 5 dX6_act_267 rfl ?_
                  refine e_mk hX dX6_act_268 fl_X6_8 ?_
                  refine e_ic (nI 0) dX6_act_271 (by decide) ?_
                  refine e_kld hX dX6_act_272 (by omega) ?_
                  refine e_iload 0 dX6_act_273 rfl ?_
                  refine e_iadd dX6_act_275 ?_
                  refine e_callV (ci := 6) (st := []) (st1 := []) (As := [.int (nI t), .int (nI 3), .int (-1), .int ((kf (0)) + qn)]) (m_waits hX (by omega)) dX6_act_276 (by decide) cm_X6_waits lk_X6_99 im_X6_waits rfl sel_X6_waits hX.1 rfl rfl (Nat.le_of_ble_eq_true rfl) rfl ?_
                  refine e_ic ((-1)) dX6_act_279 (by decide) ?_
                  exact e_retI dX6_act_280 rfl rfl (by rw [eA, acO, if_neg (show ¬ nI 6 = 1 by decide), if_neg (show ¬ nI 6 = 2 by decide), if_neg (show ¬ nI 6 = 3 by decide), if_neg (show ¬ nI 6 = 4 by decide), if_neg (show ¬ nI 6 = 5 by decide), if_pos (show nI 6 = 6 by decide)] <;> simp [h4, h4']) (by rw [eA, acO, if_neg (show ¬ nI 6 = 1 by decide), if_neg (show ¬ nI 6 = 2 by decide), if_neg (show ¬ nI 6 = 3 by decide), if_neg (show ¬ nI 6 = 4 by decide), if_neg (show ¬ nI 6 = 5 by decide), if_pos (show nI 6 = 6 by decide)] <;> simp [h4, h4'])
                · skip
                  have h4' := Int32.not_lt.mp h4
                  refine e_ic (nI 0) dX6_act_261 (by decide) ?_
                  exact e_retI dX6_act_262 rfl rfl (by rw [eA, acO, if_neg (show ¬ nI 6 = 1 by decide), if_neg (show ¬ nI 6 = 2 by decide), if_neg (show ¬ nI 6 = 3 by decide), if_neg (show ¬ nI 6 = 4 by decide), if_neg (show ¬ nI 6 = 5 by decide), if_pos (show nI 6 = 6 by decide)] <;> simp [h4, h4']) (by rw [eA, acO, if_neg (show ¬ nI 6 = 1 by decide), if_neg (show ¬ nI 6 = 2 by decide), if_neg (show ¬ nI 6 = 3 by decide), if_neg (show ¬ nI 6 = 4 by decide), if_neg (show ¬ nI 6 = 5 by decide), if_pos (show nI 6 = 6 by decide)] <;> simp [h4, h4'])
              · skip
                refine e_tabIn (off := 166) 281 dX6_act_115 (by decide) (by decide) (by decide) (by decide) ?_
                refine e_aload_n 5 dX6_act_281 rfl ?_
                refine e_iload_n 6 dX6_act_282 rfl ?_
                refine e_iload 0 dX6_act_283 rfl ?_
                refine e_callV (ci := 6) (st := []) (st1 := [.int ((fkF kf vf t qn).1)]) (As := [.int (nI t), .int qn]) (m_forks hX (by omega) hn hn2) dX6_act_285 (by decide) cm_X6_forks lk_X6_106 im_X6_forks rfl sel_X6_forks hX.1 rfl rfl (Nat.le_of_ble_eq_true rfl) rfl ?_
                exact e_retI dX6_act_288 rfl rfl (by rw [eA, acO, if_neg (show ¬ nI 7 = 1 by decide), if_neg (show ¬ nI 7 = 2 by decide), if_neg (show ¬ nI 7 = 3 by decide), if_neg (show ¬ nI 7 = 4 by decide), if_neg (show ¬ nI 7 = 5 by decide), if_neg (show ¬ nI 7 = 6 by decide), if_pos (show nI 7 = 7 by decide)]) (by rw [eA, acO, if_neg (show ¬ nI 7 = 1 by decide), if_neg (show ¬ nI 7 = 2 by decide), if_neg (show ¬ nI 7 = 3 by decide), if_neg (show ¬ nI 7 = 4 by decide), if_neg (show ¬ nI 7 = 5 by decide), if_neg (show ¬ nI 7 = 6 by decide), if_pos (show nI 7 = 7 by decide)])
              · skip
                refine e_tabIn (off := 218) 333 dX6_act_115 (by decide) (by decide) (by decide) (by decide) ?_
                refine e_aload_n 5 dX6_act_333 rfl ?_
                refine e_iload_n 6 dX6_act_334 rfl ?_
                refine e_iload 1 dX6_act_335 rfl ?_
                refine e_iload 0 dX6_act_337 rfl ?_
                refine e_callV (ci := 6) (st := []) (st1 := [.int ((smF kf t (nI 8) qn).1)]) (As := [.int (nI t), .int (nI 8), .int qn]) (m_smalls hX (by omega) ht hW.hm (by_le hq7)) dX6_act_339 (by decide) cm_X6_smalls lk_X6_114 im_X6_smalls rfl sel_X6_smalls hX.1 rfl rfl (Nat.le_of_ble_eq_true rfl) rfl ?_
                exact e_retI dX6_act_342 rfl rfl (by rw [eA, acO, if_neg (show ¬ nI 8 = 1 by decide), if_neg (show ¬ nI 8 = 2 by decide), if_neg (show ¬ nI 8 = 3 by decide), if_neg (show ¬ nI 8 = 4 by decide), if_neg (show ¬ nI 8 = 5 by decide), if_neg (show ¬ nI 8 = 6 by decide), if_neg (show ¬ nI 8 = 7 by decide), if_neg (show ¬ nI 8 = 10 by decide), if_neg (show ¬ nI 8 = 11 by decide)]) (by rw [eA, acO, if_neg (show ¬ nI 8 = 1 by decide), if_neg (show ¬ nI 8 = 2 by decide), if_neg (show ¬ nI 8 = 3 by decide), if_neg (show ¬ nI 8 = 4 by decide), if_neg (show ¬ nI 8 = 5 by decide), if_neg (show ¬ nI 8 = 6 by decide), if_neg (show ¬ nI 8 = 7 by decide), if_neg (show ¬ nI 8 = 10 by decide), if_neg (show ¬ nI 8 = 11 by decide)])
              · skip
                refine e_tabIn (off := 218) 333 dX6_act_115 (by decide) (by decide) (by decide) (by decide) ?_
                refine e_aload_n 5 dX6_act_333 rfl ?_
                refine e_iload_n 6 dX6_act_334 rfl ?_
                refine e_iload 1 dX6_act_335 rfl ?_
                refine e_iload 0 dX6_act_337 rfl ?_
                refine e_callV (ci := 6) (st := []) (st1 := [.int ((smF kf t (nI 9) qn).1)]) (As := [.int (nI t), .int (nI 9), .int qn]) (m_smalls hX (by omega) ht hW.hm (by_le hq7)) dX6_act_339 (by decide) cm_X6_smalls lk_X6_114 im_X6_smalls rfl sel_X6_smalls hX.1 rfl rfl (Nat.le_of_ble_eq_true rfl) rfl ?_
                exact e_retI dX6_act_342 rfl rfl (by rw [eA, acO, if_neg (show ¬ nI 9 = 1 by decide), if_neg (show ¬ nI 9 = 2 by decide), if_neg (show ¬ nI 9 = 3 by decide), if_neg (show ¬ nI 9 = 4 by decide), if_neg (show ¬ nI 9 = 5 by decide), if_neg (show ¬ nI 9 = 6 by decide), if_neg (show ¬ nI 9 = 7 by decide), if_neg (show ¬ nI 9 = 10 by decide), if_neg (show ¬ nI 9 = 11 by decide)]) (by rw [eA, acO, if_neg (show ¬ nI 9 = 1 by decide), if_neg (show ¬ nI 9 = 2 by decide), if_neg (show ¬ nI 9 = 3 by decide), if_neg (show ¬ nI 9 = 4 by decide), if_neg (show ¬ nI 9 = 5 by decide), if_neg (show ¬ nI 9 = 6 by decide), if_neg (show ¬ nI 9 = 7 by decide), if_neg (show ¬ nI 9 = 10 by decide), if_neg (show ¬ nI 9 = 11 by decide)])
              · skip
                refine e_tabIn (off := 174) 289 dX6_act_115 (by decide) (by decide) (by decide) (by decide) ?_
                refine e_aload_n 5 dX6_act_289 rfl ?_
                refine e_iload_n 6 dX6_act_290 rfl ?_
                refine e_iload 0 dX6_act_291 rfl ?_
                refine e_callV (ci := 6) (st := []) (st1 := [.int ((syF kf t qn).1)]) (As := [.int (nI t), .int qn]) (m_says hX (by omega)) dX6_act_293 (by decide) cm_X6_says lk_X6_109 im_X6_says rfl sel_X6_says hX.1 rfl rfl (Nat.le_of_ble_eq_true rfl) rfl ?_
                exact e_retI dX6_act_296 rfl rfl (by rw [eA, acO, if_neg (show ¬ nI 10 = 1 by decide), if_neg (show ¬ nI 10 = 2 by decide), if_neg (show ¬ nI 10 = 3 by decide), if_neg (show ¬ nI 10 = 4 by decide), if_neg (show ¬ nI 10 = 5 by decide), if_neg (show ¬ nI 10 = 6 by decide), if_neg (show ¬ nI 10 = 7 by decide), if_pos (show nI 10 = 10 by decide)]) (by rw [eA, acO, if_neg (show ¬ nI 10 = 1 by decide), if_neg (show ¬ nI 10 = 2 by decide), if_neg (show ¬ nI 10 = 3 by decide), if_neg (show ¬ nI 10 = 4 by decide), if_neg (show ¬ nI 10 = 5 by decide), if_neg (show ¬ nI 10 = 6 by decide), if_neg (show ¬ nI 10 = 7 by decide), if_pos (show nI 10 = 10 by decide)])
              · skip
                refine e_tabIn (off := 182) 297 dX6_act_115 (by decide) (by decide) (by decide) (by decide) ?_
                refine e_iload 0 dX6_act_297 rfl ?_
                refine e_i2l dX6_act_299 ?_
                refine e_lconst (v := lN 0) dX6_act_300 (by decide) ?_
                refine e_ldc2 dX6_act_301 cs_X6_112 ?_
                refine e_lv (w := lN 3) (by decide) ?_
                refine e_callS (st := []) (st1 := [.int (bI (inI qn (nI 0) (nI 3)))]) (As := [.long qn.toInt64, .long (lN 0), .long (lN 3)]) (m_isInI (x := qn) (lo := (nI 0)) (hi := (nI 3)) rfl ((nI_l (by omega)).symm) ((nI_l (by omega)).symm) _) dX6_act_304 (by decide) cm_X6_isIn lk_X6_32 sm_X6_isIn rfl rfl (Nat.le_of_ble_eq_true rfl) rfl ?_
                refine e_if_neB 315 dX6_act_307 (by decide) (fun k1 => ?_) (fun k1 => ?_)
                · skip
                  refine e_iload 0 dX6_act_315 rfl ?_
                  refine e_if_eq 326 dX6_act_317 (by decide) (fun k2 => ?_) (fun k2 => ?_)
                  · skip
                    refine e_ic (nI 5) dX6_act_326 (by decide) ?_
                    refine e_goto 332 dX6_act_327 (by decide) ?_
                    exact e_retI dX6_act_332 rfl rfl (by rw [eA, acO, if_neg (show ¬ nI 11 = 1 by decide), if_neg (show ¬ nI 11 = 2 by decide), if_neg (show ¬ nI 11 = 3 by decide), if_neg (show ¬ nI 11 = 4 by decide), if_neg (show ¬ nI 11 = 5 by decide), if_neg (show ¬ nI 11 = 6 by decide), if_neg (show ¬ nI 11 = 7 by decide), if_neg (show ¬ nI 11 = 10 by decide), if_pos (show nI 11 = 11 by decide)]; rw [if_pos k1]; simp [k2]) (by rw [eA, acO, if_neg (show ¬ nI 11 = 1 by decide), if_neg (show ¬ nI 11 = 2 by decide), if_neg (show ¬ nI 11 = 3 by decide), if_neg (show ¬ nI 11 = 4 by decide), if_neg (show ¬ nI 11 = 5 by decide), if_neg (show ¬ nI 11 = 6 by decide), if_neg (show ¬ nI 11 = 7 by decide), if_neg (show ¬ nI 11 = 10 by decide), if_pos (show nI 11 = 11 by decide)])
                  · skip
                    refine e_iload 0 dX6_act_320 rfl ?_
                    refine e_ic (nI 3) dX6_act_322 (by decide) ?_
                    refine e_iv (w := 3) rfl ?_
                    refine e_icmp_ne 330 dX6_act_323 (by decide) (fun k3 => ?_) (fun k3 => ?_)
                    · skip
                      refine e_bipush (v := nI 6) dX6_act_330 (by decide) ?_
                      exact e_retI dX6_act_332 rfl rfl (by rw [eA, acO, if_neg (show ¬ nI 11 = 1 by decide), if_neg (show ¬ nI 11 = 2 by decide), if_neg (show ¬ nI 11 = 3 by decide), if_neg (show ¬ nI 11 = 4 by decide), if_neg (show ¬ nI 11 = 5 by decide), if_neg (show ¬ nI 11 = 6 by decide), if_neg (show ¬ nI 11 = 7 by decide), if_neg (show ¬ nI 11 = 10 by decide), if_pos (show nI 11 = 11 by decide)]; rw [if_pos k1]; simp [k2, k3]) (by rw [eA, acO, if_neg (show ¬ nI 11 = 1 by decide), if_neg (show ¬ nI 11 = 2 by decide), if_neg (show ¬ nI 11 = 3 by decide), if_neg (show ¬ nI 11 = 4 by decide), if_neg (show ¬ nI 11 = 5 by decide), if_neg (show ¬ nI 11 = 6 by decide), if_neg (show ¬ nI 11 = 7 by decide), if_neg (show ¬ nI 11 = 10 by decide), if_pos (show nI 11 = 11 by decide)])
                    · skip
                      refine e_ic (nI 5) dX6_act_326 (by decide) ?_
                      refine e_goto 332 dX6_act_327 (by decide) ?_
                      exact e_retI dX6_act_332 rfl rfl (by rw [eA, acO, if_neg (show ¬ nI 11 = 1 by decide), if_neg (show ¬ nI 11 = 2 by decide), if_neg (show ¬ nI 11 = 3 by decide), if_neg (show ¬ nI 11 = 4 by decide), if_neg (show ¬ nI 11 = 5 by decide), if_neg (show ¬ nI 11 = 6 by decide), if_neg (show ¬ nI 11 = 7 by decide), if_neg (show ¬ nI 11 = 10 by decide), if_pos (show nI 11 = 11 by decide)]; rw [if_pos k1]; simp [k2, k3]) (by rw [eA, acO, if_neg (show ¬ nI 11 = 1 by decide), if_neg (show ¬ nI 11 = 2 by decide), if_neg (show ¬ nI 11 = 3 by decide), if_neg (show ¬ nI 11 = 4 by decide), if_neg (show ¬ nI 11 = 5 by decide), if_neg (show ¬ nI 11 = 6 by decide), if_neg (show ¬ nI 11 = 7 by decide), if_neg (show ¬ nI 11 = 10 by decide), if_pos (show nI 11 = 11 by decide)])
                · skip
                  refine e_bipush (v := nI 10) dX6_act_310 (by decide) ?_
                  refine e_goto 332 dX6_act_312 (by decide) ?_
                  exact e_retI dX6_act_332 rfl rfl (by rw [eA, acO, if_neg (show ¬ nI 11 = 1 by decide), if_neg (show ¬ nI 11 = 2 by decide), if_neg (show ¬ nI 11 = 3 by decide), if_neg (show ¬ nI 11 = 4 by decide), if_neg (show ¬ nI 11 = 5 by decide), if_neg (show ¬ nI 11 = 6 by decide), if_neg (show ¬ nI 11 = 7 by decide), if_neg (show ¬ nI 11 = 10 by decide), if_pos (show nI 11 = 11 by decide)]; rw [if_neg (by rw [k1]; decide)]) (by rw [eA, acO, if_neg (show ¬ nI 11 = 1 by decide), if_neg (show ¬ nI 11 = 2 by decide), if_neg (show ¬ nI 11 = 3 by decide), if_neg (show ¬ nI 11 = 4 by decide), if_neg (show ¬ nI 11 = 5 by decide), if_neg (show ¬ nI 11 = 6 by decide), if_neg (show ¬ nI 11 = 7 by decide), if_neg (show ¬ nI 11 = 10 by decide), if_pos (show nI 11 = 11 by decide)])
            · skip
              rw [Bool.not_eq_true] at hsw
              refine e_tabOut 333 dX6_act_115 (inI_out (a := 1) (b := 11) (by decide) (by decide) hsw) (by decide) ?_
              refine e_aload_n 5 dX6_act_333 rfl ?_
              refine e_iload_n 6 dX6_act_334 rfl ?_
              refine e_iload 1 dX6_act_335 rfl ?_
              refine e_iload 0 dX6_act_337 rfl ?_
              refine e_callV (ci := 6) (st := []) (st1 := [.int ((smF kf t op qn).1)]) (As := [.int (nI t), .int op, .int qn]) (m_smalls hX (by omega) ht hW.hm (by_le hq7)) dX6_act_339 (by decide) cm_X6_smalls lk_X6_114 im_X6_smalls rfl sel_X6_smalls hX.1 rfl rfl (Nat.le_of_ble_eq_true rfl) rfl ?_
              have g : ∀ k : Nat, 1 ≤ k ∧ k ≤ 11 → ¬ op = nI k := fun k hk e => by rw [e, inI_of hk.1 hk.2 (by decide)] at hsw; cases hsw
              exact e_retI dX6_act_342 rfl rfl (by rw [eA, acO, if_neg (show ¬ op = 1 from g 1 (by decide)), if_neg (show ¬ op = 2 from g 2 (by decide)), if_neg (show ¬ op = 3 from g 3 (by decide)), if_neg (show ¬ op = 4 from g 4 (by decide)), if_neg (show ¬ op = 5 from g 5 (by decide)), if_neg (show ¬ op = 6 from g 6 (by decide)), if_neg (show ¬ op = 7 from g 7 (by decide)), if_neg (show ¬ op = 10 from g 10 (by decide)), if_neg (show ¬ op = 11 from g 11 (by decide))]) (by rw [eA, acO, if_neg (show ¬ op = 1 from g 1 (by decide)), if_neg (show ¬ op = 2 from g 2 (by decide)), if_neg (show ¬ op = 3 from g 3 (by decide)), if_neg (show ¬ op = 4 from g 4 (by decide)), if_neg (show ¬ op = 5 from g 5 (by decide)), if_neg (show ¬ op = 6 from g 6 (by decide)), if_neg (show ¬ op = 7 from g 7 (by decide)), if_neg (show ¬ op = 10 from g 10 (by decide)), if_neg (show ¬ op = 11 from g 11 (by decide))])
          · skip
            have g5' := Nat.not_lt.mpr g5
            refine e_ic (nI 2) dX6_act_91 (by decide) ?_
            exact e_retI dX6_act_92 rfl rfl (by rw [act_G ep ea (by omega) (by omega), acG, if_neg g1', ecp, if_pos g2, ← hop, if_pos g3, if_neg g4, if_neg g5']) (by rw [act_G ep ea (by omega) (by omega), acG, if_neg g1', ecp, if_pos g2, ← hop, if_pos g3, if_neg g4, if_neg g5'])
        · skip
          refine e_bipush (v := (-2)) dX6_act_80 (by decide) ?_
          exact e_retI dX6_act_82 rfl rfl (by rw [act_G ep ea (by omega) (by omega), acG, if_neg g1', ecp, if_pos g2, ← hop, if_pos g3, if_pos g4]) (by rw [act_G ep ea (by omega) (by omega), acG, if_neg g1', ecp, if_pos g2, ← hop, if_pos g3, if_pos g4])
      · skip
        refine e_bipush (v := nI 10) dX6_act_72 (by decide) ?_
        exact e_retI dX6_act_74 rfl rfl (by rw [act_G ep ea (by omega) (by omega), acG, if_neg g1', ecp, if_pos g2, ← hop, if_neg (by rw [g3]; decide)]) (by rw [act_G ep ea (by omega) (by omega), acG, if_neg g1', ecp, if_pos g2, ← hop, if_neg (by rw [g3]; decide)])
    · skip
      have g2' := Nat.not_lt.mpr g2
      refine e_ic (nI 2) dX6_act_39 (by decide) ?_
      exact e_retI dX6_act_40 rfl rfl (by rw [act_G ep ea (by omega) (by omega), acG, if_neg g1', ecp, if_neg g2']) (by rw [act_G ep ea (by omega) (by omega), acG, if_neg g1', ecp, if_neg g2'])
  · skip
    have g1' := Int32.not_le.mp g1
    refine e_ic (nI 1) dX6_act_31 (by decide) ?_
    exact e_retI dX6_act_32 rfl rfl (by rw [act_G ep ea (by omega) (by omega), acG, if_pos g1']) (by rw [act_G ep ea (by omega) (by omega), acG, if_pos g1'])
end Model12
