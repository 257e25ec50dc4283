/-! the reference: ringBell, passes, added -/
section Model4
variable {G : GG} {m : Mem} {X : XX} {kf : KF} {vf : VF} {lf : Nat → Int32}
set_option maxRecDepth 100000 in
set_option maxHeartbeats 4000000 in
theorem m_ringBell (hX : MW m X) {n : Nat} {b : Int32} (hn : kf 1 = nI n) (hn2 : n ≤ 200) : Ev G 2 uX6_ringBell [.ref X.1, .int b] (MM m X (kf, vf, lf)) (some (.int (nI (rgF kf b).2))) (MM m X ((rgF kf b).1, vf, lf)) := by
  refine Ev.of (by decide +kernel) (Nat.le_of_ble_eq_true rfl) ?_
  have L : ∀ (k i c : Nat) (K : KF), i + k = n → (K, c) = lp (rgS b) i (kf, 0) → EvB G 2 uX6_ringBell (zz (MM m X (kf, vf, lf))) (nn (MM m X (kf, vf, lf))) (some (.int (nI (rgF kf b).2))) (MM m X ((rgF kf b).1, vf, lf)) 4 [(3, .int (nI i)), (2, .int (nI c)), (0, .ref X.1), (1, .int b)] [] (MM m X (K, vf, lf)) := by
    intro k
    induction k with
    | zero =>
      intro i c K hi hK
      have h1 : K 1 = nI n := by rw [show K = (lp (rgS b) i (kf, 0)).1 by rw [← hK], rg_1]; exact hn
      refine e_iload_n 0 dX6_ringBell_4 rfl ?_
      refine e_aload_n 2 dX6_ringBell_5 rfl ?_
      refine e_mk hX dX6_ringBell_6 fl_X6_8 ?_
      refine e_ic (nI 1) dX6_ringBell_9 (by decide) ?_
      refine e_kld hX dX6_ringBell_10 (by omega) (e_iv (w := nI n) (h1) ?_)
      refine e_icmp_geN 53 dX6_ringBell_11 (by decide) (by omega) (by omega) (fun _ => ?_) (fun h => absurd h (by omega))
      refine e_iload_n 1 dX6_ringBell_53 rfl ?_
      exact e_retI dX6_ringBell_54 rfl rfl (by rw [rgF, nT_of hn hn2, ← show i = n by omega, ← hK]) (by rw [rgF, nT_of hn hn2, ← show i = n by omega, ← hK])
    | succ k ih =>
      intro i c K hi hK
      have h1 : K 1 = nI n := by rw [show K = (lp (rgS b) i (kf, 0)).1 by rw [← hK], rg_1]; exact hn
      refine e_iload_n 0 dX6_ringBell_4 rfl ?_
      refine e_aload_n 2 dX6_ringBell_5 rfl ?_
      refine e_mk hX dX6_ringBell_6 fl_X6_8 ?_
      refine e_ic (nI 1) dX6_ringBell_9 (by decide) ?_
      refine e_kld hX dX6_ringBell_10 (by omega) (e_iv (w := nI n) (h1) ?_)
      refine e_icmp_geN 53 dX6_ringBell_11 (by decide) (by omega) (by omega) (fun h => absurd h (by omega)) (fun _ => ?_)
      refine e_aload_n 2 dX6_ringBell_14 rfl ?_
      refine e_iload_n 0 dX6_ringBell_15 rfl ?_
      refine e_bipush (v := nI 6) dX6_ringBell_16 (by decide) ?_
      refine e_callV (ci := 6) (st := []) (st1 := [.int (kg K i 6)]) (As := [.int (nI i), .int (nI 6)]) (m_get hX (kg_lt (by omega) (by omega))) dX6_ringBell_18 (by decide) cm_X6_get lk_X6_36 im_X6_get rfl sel_X6_get hX.1 rfl rfl (Nat.le_of_ble_eq_true rfl) rfl ?_
      refine e_ic (nI 2) dX6_ringBell_21 (by decide) ?_
      refine e_iv (w := 2) rfl ?_
      refine e_icmp_ne 47 dX6_ringBell_22 (by decide) (fun q1 => ?_) (fun q1 => ?_)
      · skip
        refine e_iinc1N (lv' := [(3, .int (nI (i + 1))), (2, .int (nI c)), (0, .ref X.1), (1, .int b)]) 0 dX6_ringBell_47 rfl (by decide) rfl ?_
        refine e_goto 4 dX6_ringBell_50 (by decide) ?_
        refine e_sub [0, 1, 2, 3] rfl ?_
        exact ih (i + 1) c K (by omega) (by show _ = rgS b i (lp (rgS b) i (kf, 0)); rw [← hK, rgS]; dsimp only; rw [if_neg (fun h => q1 h.1)])
      · skip
        refine e_aload_n 2 dX6_ringBell_25 rfl ?_
        refine e_iload_n 0 dX6_ringBell_26 rfl ?_
        refine e_bipush (v := nI 7) dX6_ringBell_27 (by decide) ?_
        refine e_callV (ci := 6) (st := []) (st1 := [.int (kg K i 7)]) (As := [.int (nI i), .int (nI 7)]) (m_get hX (kg_lt (by omega) (by omega))) dX6_ringBell_29 (by decide) cm_X6_get lk_X6_36 im_X6_get rfl sel_X6_get hX.1 rfl rfl (Nat.le_of_ble_eq_true rfl) rfl ?_
        refine e_iload_n 3 dX6_ringBell_32 rfl ?_
        refine e_icmp_eq 39 dX6_ringBell_33 (by decide) (fun q2 => ?_) (fun q2 => ?_)
        · skip
          refine e_aload_n 2 dX6_ringBell_39 rfl ?_
          refine e_iload_n 0 dX6_ringBell_40 rfl ?_
          refine e_callV (ci := 6) (st := []) (st1 := []) (As := [.int (nI i)]) (m_isReadyNow hX (by omega)) dX6_ringBell_41 (by decide) cm_X6_isReadyNow lk_X6_70 im_X6_isReadyNow rfl sel_X6_isReadyNow hX.1 rfl rfl (Nat.le_of_ble_eq_true rfl) rfl ?_
          refine e_iinc1N (lv' := [(2, .int (nI (c + 1))), (3, .int (nI i)), (0, .ref X.1), (1, .int b)]) 1 dX6_ringBell_44 rfl (by decide) rfl ?_
          refine e_iinc1N (lv' := [(3, .int (nI (i + 1))), (2, .int (nI (c + 1))), (0, .ref X.1), (1, .int b)]) 1 dX6_ringBell_47 rfl (by decide) rfl ?_
          refine e_goto 4 dX6_ringBell_50 (by decide) ?_
          refine e_sub [0, 1, 2, 3] rfl ?_
          exact ih (i + 1) (c + 1) (rdy K i) (by omega) (by show _ = rgS b i (lp (rgS b) i (kf, 0)); rw [← hK, rgS]; dsimp only; rw [if_pos ⟨q1, q2⟩])
        · skip
          refine e_goto 47 dX6_ringBell_36 (by decide) ?_
          refine e_iinc1N (lv' := [(3, .int (nI (i + 1))), (2, .int (nI c)), (0, .ref X.1), (1, .int b)]) 0 dX6_ringBell_47 rfl (by decide) rfl ?_
          refine e_goto 4 dX6_ringBell_50 (by decide) ?_
          refine e_sub [0, 1, 2, 3] rfl ?_
          exact ih (i + 1) c K (by omega) (by show _ = rgS b i (lp (rgS b) i (kf, 0)); rw [← hK, rgS]; dsimp only; rw [if_neg (fun h => q2 h.2)])
  refine e_lvs (lv' := [(0, .ref X.1), (1, .int b)]) rfl ?_
  refine e_ic (nI 0) dX6_ringBell_0 (by decide) ?_
  refine e_istore_n (lv' := [(2, .int (nI 0)), (0, .ref X.1), (1, .int b)]) dX6_ringBell_1 (by decide) rfl ?_
  refine e_ic (nI 0) dX6_ringBell_2 (by decide) ?_
  refine e_istore_n (lv' := [(3, .int (nI 0)), (2, .int (nI 0)), (0, .ref X.1), (1, .int b)]) dX6_ringBell_3 (by decide) rfl ?_
  refine e_sub [0, 1, 2, 3] rfl ?_
  exact L n 0 0 kf (by omega) rfl
set_option maxRecDepth 100000 in
set_option maxHeartbeats 4000000 in
theorem m_passes (hX : MW m X) {n l : Nat} (hl : l < 100) (hn : kf 1 = nI n) (hn2 : n ≤ 200) (hC : CH kf n) : Ev G 6 uX6_passes [.ref X.1, .int (nI l)] (MM m X (kf, vf, lf)) none (MM m X (psF kf vf l, vf, lf)) := by
  refine Ev.of (by decide +kernel) (Nat.le_of_ble_eq_true rfl) ?_
  have L : ∀ (k i : Nat) (B : Option Nat), i + k = n → B = lp (pkS kf vf (wtP kf l)) i none → (∀ b, B = some b → b < 200) → EvB G 6 uX6_passes (zz (MM m X (kf, vf, lf))) (nn (MM m X (kf, vf, lf))) none (MM m X (psF kf vf l, vf, lf)) 7 [(4, .int (nI i)), (3, .int (oI (B.map (stnd kf vf)))), (2, .int (oI B)), (0, .ref X.1), (1, .int (nI l))] [] (MM m X (kf, vf, lf)) := by
    intro k
    induction k with
    | zero =>
      intro i B hi hB hB2
      cases B with
      | none =>
        refine e_lvs (lv' := [(4, .int (nI i)), (3, .int (-1)), (2, .int (-1)), (0, .ref X.1), (1, .int (nI l))]) rfl ?_
        refine e_iload 0 dX6_passes_7 rfl ?_
        refine e_aload_n 3 dX6_passes_9 rfl ?_
        refine e_mk hX dX6_passes_10 fl_X6_8 ?_
        refine e_ic (nI 1) dX6_passes_13 (by decide) ?_
        refine e_kld hX dX6_passes_14 (by omega) (e_iv (w := nI n) (hn) ?_)
        refine e_icmp_geN 79 dX6_passes_15 (by decide) (by omega) (by omega) (fun _ => ?_) (fun h => absurd h (by omega))
        refine e_aload_n 3 dX6_passes_79 rfl ?_
        refine e_mk hX dX6_passes_80 fl_X6_8 ?_
        refine e_sipush (v := nI 240) dX6_passes_83 (by decide) ?_
        refine e_iload_n 4 dX6_passes_86 rfl ?_
        refine e_iaddN dX6_passes_87 ?_
        refine e_iload_n 2 dX6_passes_88 rfl ?_
        refine e_kst hX dX6_passes_89 (by omega) ?_
        refine e_iload_n 2 dX6_passes_90 rfl ?_
        refine e_if_ge 95 dX6_passes_91 (by decide) (fun h => absurd h (by decide)) (fun _ => ?_)
        exact e_retV dX6_passes_94 rfl rfl (by rw [psF, nT_of hn hn2, pick, ← show i = n by omega, ← hB])
      | some b =>
        have hb := hB2 b rfl
        refine e_lvs (lv' := [(4, .int (nI i)), (3, .int (nI (stnd kf vf b))), (2, .int (nI b)), (0, .ref X.1), (1, .int (nI l))]) rfl ?_
        refine e_iload 0 dX6_passes_7 rfl ?_
        refine e_aload_n 3 dX6_passes_9 rfl ?_
        refine e_mk hX dX6_passes_10 fl_X6_8 ?_
        refine e_ic (nI 1) dX6_passes_13 (by decide) ?_
        refine e_kld hX dX6_passes_14 (by omega) (e_iv (w := nI n) (hn) ?_)
        refine e_icmp_geN 79 dX6_passes_15 (by decide) (by omega) (by omega) (fun _ => ?_) (fun h => absurd h (by omega))
        refine e_aload_n 3 dX6_passes_79 rfl ?_
        refine e_mk hX dX6_passes_80 fl_X6_8 ?_
        refine e_sipush (v := nI 240) dX6_passes_83 (by decide) ?_
        refine e_iload_n 4 dX6_passes_86 rfl ?_
        refine e_iaddN dX6_passes_87 ?_
        refine e_iload_n 2 dX6_passes_88 rfl ?_
        refine e_kst hX dX6_passes_89 (by omega) ?_
        refine e_iload_n 2 dX6_passes_90 rfl ?_
        refine e_if_ge 95 dX6_passes_91 (by decide) (fun _ => ?_) (fun h => absurd h (not_not_intro (nI_pos' (by omega))))
        refine e_aload_n 3 dX6_passes_95 rfl ?_
        refine e_iload_n 2 dX6_passes_96 rfl ?_
        refine e_callV (ci := 6) (st := []) (st1 := []) (As := [.int (nI b)]) (m_isReadyNow hX (by omega)) dX6_passes_97 (by decide) cm_X6_isReadyNow lk_X6_70 im_X6_isReadyNow rfl sel_X6_isReadyNow hX.1 rfl rfl (Nat.le_of_ble_eq_true rfl) rfl ?_
        refine e_aload_n 3 dX6_passes_100 rfl ?_
        refine e_aload_n 3 dX6_passes_101 rfl ?_
        refine e_iload_n 2 dX6_passes_102 rfl ?_
        refine e_ic (nI 0) dX6_passes_103 (by decide) ?_
        refine e_callV (ci := 6) (st := [.ref X.1]) (st1 := [.int (kg (rdy (upd kf (240 + l) (nI b)) b) b 0), .ref X.1]) (As := [.int (nI b), .int (nI 0)]) (m_get hX (kg_lt (by omega) (by omega))) dX6_passes_104 (by decide) cm_X6_get lk_X6_36 im_X6_get rfl sel_X6_get hX.1 rfl rfl (Nat.le_of_ble_eq_true rfl) rfl ?_
        refine e_ic (nI 4) dX6_passes_107 (by decide) ?_
        refine e_iv (w := 4) rfl ?_
        refine e_icmp_ne 116 dX6_passes_108 (by decide) (fun q9 => ?_) (fun q9 => ?_)
        · skip
          refine e_bipush (v := nI 10) dX6_passes_116 (by decide) ?_
          refine e_callV (ci := 6) (st := []) (st1 := []) (As := [.int (nI 10)]) (m_body hX (by omega)) dX6_passes_118 (by decide) cm_X6_body lk_X6_63 im_X6_body rfl sel_X6_body hX.1 rfl rfl (Nat.le_of_ble_eq_true rfl) rfl ?_
          exact e_retV dX6_passes_121 rfl rfl (by rw [psF, nT_of hn hn2, pick, ← show i = n by omega, ← hB]; dsimp only; rw [if_neg q9])
        · skip
          refine e_bipush (v := nI 11) dX6_passes_111 (by decide) ?_
          refine e_goto 118 dX6_passes_113 (by decide) ?_
          refine e_callV (ci := 6) (st := []) (st1 := []) (As := [.int (nI 11)]) (m_body hX (by omega)) dX6_passes_118 (by decide) cm_X6_body lk_X6_63 im_X6_body rfl sel_X6_body hX.1 rfl rfl (Nat.le_of_ble_eq_true rfl) rfl ?_
          exact e_retV dX6_passes_121 rfl rfl (by rw [psF, nT_of hn hn2, pick, ← show i = n by omega, ← hB]; dsimp only; rw [if_pos q9])
    | succ k ih =>
      intro i B hi hB hB2
      have g1 : stnd kf vf i < 200 := stnd_lt (by omega) hn hn2
      cases B with
      | none =>
        refine e_lvs (lv' := [(4, .int (nI i)), (3, .int (-1)), (2, .int (-1)), (0, .ref X.1), (1, .int (nI l))]) rfl ?_
        refine e_iload 0 dX6_passes_7 rfl ?_
        refine e_aload_n 3 dX6_passes_9 rfl ?_
        refine e_mk hX dX6_passes_10 fl_X6_8 ?_
        refine e_ic (nI 1) dX6_passes_13 (by decide) ?_
        refine e_kld hX dX6_passes_14 (by omega) (e_iv (w := nI n) (hn) ?_)
        refine e_icmp_geN 79 dX6_passes_15 (by decide) (by omega) (by omega) (fun h => absurd h (by omega)) (fun _ => ?_)
        refine e_aload_n 3 dX6_passes_18 rfl ?_
        refine e_iload 0 dX6_passes_19 rfl ?_
        refine e_bipush (v := nI 6) dX6_passes_21 (by decide) ?_
        refine e_callV (ci := 6) (st := []) (st1 := [.int (kg kf i 6)]) (As := [.int (nI i), .int (nI 6)]) (m_get hX (kg_lt (by omega) (by omega))) dX6_passes_23 (by decide) cm_X6_get lk_X6_36 im_X6_get rfl sel_X6_get hX.1 rfl rfl (Nat.le_of_ble_eq_true rfl) rfl ?_
        refine e_ic (nI 1) dX6_passes_26 (by decide) ?_
        refine e_iv (w := 1) rfl ?_
        refine e_icmp_ne 73 dX6_passes_27 (by decide) (fun q1 => ?_) (fun q1 => ?_)
        · skip
          refine e_iinc1N (lv' := [(4, .int (nI (i + 1))), (3, .int (-1)), (2, .int (-1)), (0, .ref X.1), (1, .int (nI l))]) 0 dX6_passes_73 rfl (by decide) rfl ?_
          refine e_goto 7 dX6_passes_76 (by decide) ?_
          refine e_sub [0, 1, 2, 3, 4] rfl ?_
          exact ih (i + 1) none (by omega) (by show none = pkS kf vf (wtP kf l) i (lp (pkS kf vf (wtP kf l)) i none); rw [← hB, pkS, if_neg (by simp [wtP, q1])]) hB2
        · skip
          refine e_aload_n 3 dX6_passes_30 rfl ?_
          refine e_iload 0 dX6_passes_31 rfl ?_
          refine e_bipush (v := nI 7) dX6_passes_33 (by decide) ?_
          refine e_callV (ci := 6) (st := []) (st1 := [.int (kg kf i 7)]) (As := [.int (nI i), .int (nI 7)]) (m_get hX (kg_lt (by omega) (by omega))) dX6_passes_35 (by decide) cm_X6_get lk_X6_36 im_X6_get rfl sel_X6_get hX.1 rfl rfl (Nat.le_of_ble_eq_true rfl) rfl ?_
          refine e_iload_n 4 dX6_passes_38 rfl ?_
          refine e_icmp_eq 45 dX6_passes_39 (by decide) (fun q2 => ?_) (fun q2 => ?_)
          · skip
            refine e_aload_n 3 dX6_passes_45 rfl ?_
            refine e_iload 0 dX6_passes_46 rfl ?_
            refine e_callV (ci := 6) (st := []) (st1 := [.int (nI (stnd kf vf i))]) (As := [.int (nI i)]) (m_standingOf hX (by omega) hn hn2 hC) dX6_passes_48 (by decide) cm_X6_standingOf lk_X6_67 im_X6_standingOf rfl sel_X6_standingOf hX.1 rfl rfl (Nat.le_of_ble_eq_true rfl) rfl ?_
            refine e_istore (lv' := [(5, .int (nI (stnd kf vf i))), (4, .int (nI i)), (3, .int (-1)), (2, .int (-1)), (0, .ref X.1), (1, .int (nI l))]) dX6_passes_51 (by decide) rfl ?_
            refine e_iload_n 3 dX6_passes_53 rfl ?_
            refine e_if_lt 67 dX6_passes_54 (by decide) (fun _ => ?_) (fun h => absurd h (by decide))
            refine e_iload 1 dX6_passes_67 rfl ?_
            refine e_istore_n (lv' := [(2, .int (nI i)), (5, .int (nI (stnd kf vf i))), (4, .int (nI i)), (3, .int (-1)), (0, .ref X.1), (1, .int (nI l))]) dX6_passes_69 (by decide) rfl ?_
            refine e_iload 1 dX6_passes_70 rfl ?_
            refine e_istore_n (lv' := [(3, .int (nI (stnd kf vf i))), (2, .int (nI i)), (5, .int (nI (stnd kf vf i))), (4, .int (nI i)), (0, .ref X.1), (1, .int (nI l))]) dX6_passes_72 (by decide) rfl ?_
            refine e_iinc1N (lv' := [(4, .int (nI (i + 1))), (3, .int (nI (stnd kf vf i))), (2, .int (nI i)), (5, .int (nI (stnd kf vf i))), (0, .ref X.1), (1, .int (nI l))]) 3 dX6_passes_73 rfl (by decide) rfl ?_
            refine e_goto 7 dX6_passes_76 (by decide) ?_
            refine e_sub [0, 1, 2, 4, 5] rfl ?_
            exact ih (i + 1) (some i) (by omega) (by show some i = pkS kf vf (wtP kf l) i (lp (pkS kf vf (wtP kf l)) i none); rw [← hB, pkS, if_pos (by simp [wtP, q1, q2])]) (fun c hc => by cases hc; omega)
          · skip
            refine e_goto 73 dX6_passes_42 (by decide) ?_
            refine e_iinc1N (lv' := [(4, .int (nI (i + 1))), (3, .int (-1)), (2, .int (-1)), (0, .ref X.1), (1, .int (nI l))]) 0 dX6_passes_73 rfl (by decide) rfl ?_
            refine e_goto 7 dX6_passes_76 (by decide) ?_
            refine e_sub [0, 1, 2, 3, 4] rfl ?_
            exact ih (i + 1) none (by omega) (by show none = pkS kf vf (wtP kf l) i (lp (pkS kf vf (wtP kf l)) i none); rw [← hB, pkS, if_neg (by simp [wtP, q2])]) hB2
      | some b =>
        have hb := hB2 b rfl
        have g2 : stnd kf vf b < 200 := stnd_lt hb hn hn2
        refine e_lvs (lv' := [(4, .int (nI i)), (3, .int (nI (stnd kf vf b))), (2, .int (nI b)), (0, .ref X.1), (1, .int (nI l))]) rfl ?_
        refine e_iload 0 dX6_passes_7 rfl ?_
        refine e_aload_n 3 dX6_passes_9 rfl ?_
        refine e_mk hX dX6_passes_10 fl_X6_8 ?_
        refine e_ic (nI 1) dX6_passes_13 (by decide) ?_
        refine e_kld hX dX6_passes_14 (by omega) (e_iv (w := nI n) (hn) ?_)
        refine e_icmp_geN 79 dX6_passes_15 (by decide) (by omega) (by omega) (fun h => absurd h (by omega)) (fun _ => ?_)
        refine e_aload_n 3 dX6_passes_18 rfl ?_
        refine e_iload 0 dX6_passes_19 rfl ?_
        refine e_bipush (v := nI 6) dX6_passes_21 (by decide) ?_
        refine e_callV (ci := 6) (st := []) (st1 := [.int (kg kf i 6)]) (As := [.int (nI i), .int (nI 6)]) (m_get hX (kg_lt (by omega) (by omega))) dX6_passes_23 (by decide) cm_X6_get lk_X6_36 im_X6_get rfl sel_X6_get hX.1 rfl rfl (Nat.le_of_ble_eq_true rfl) rfl ?_
        refine e_ic (nI 1) dX6_passes_26 (by decide) ?_
        refine e_iv (w := 1) rfl ?_
        refine e_icmp_ne 73 dX6_passes_27 (by decide) (fun q1 => ?_) (fun q1 => ?_)
        · skip
          refine e_iinc1N (lv' := [(4, .int (nI (i + 1))), (3, .int (nI (stnd kf vf b))), (2, .int (nI b)), (0, .ref X.1), (1, .int (nI l))]) 0 dX6_passes_73 rfl (by decide) rfl ?_
          refine e_goto 7 dX6_passes_76 (by decide) ?_
          refine e_sub [0, 1, 2, 3, 4] rfl ?_
          exact ih (i + 1) (some b) (by omega) (by show some b = pkS kf vf (wtP kf l) i (lp (pkS kf vf (wtP kf l)) i none); rw [← hB, pkS, if_neg (by simp [wtP, q1])]) hB2
        · skip
          refine e_aload_n 3 dX6_passes_30 rfl ?_
          refine e_iload 0 dX6_passes_31 rfl ?_
          refine e_bipush (v := nI 7) dX6_passes_33 (by decide) ?_
          refine e_callV (ci := 6) (st := []) (st1 := [.int (kg kf i 7)]) (As := [.int (nI i), .int (nI 7)]) (m_get hX (kg_lt (by omega) (by omega))) dX6_passes_35 (by decide) cm_X6_get lk_X6_36 im_X6_get rfl sel_X6_get hX.1 rfl rfl (Nat.le_of_ble_eq_true rfl) rfl ?_
          refine e_iload_n 4 dX6_passes_38 rfl ?_
          refine e_icmp_eq 45 dX6_passes_39 (by decide) (fun q2 => ?_) (fun q2 => ?_)
          · skip
            refine e_aload_n 3 dX6_passes_45 rfl ?_
            refine e_iload 0 dX6_passes_46 rfl ?_
            refine e_callV (ci := 6) (st := []) (st1 := [.int (nI (stnd kf vf i))]) (As := [.int (nI i)]) (m_standingOf hX (by omega) hn hn2 hC) dX6_passes_48 (by decide) cm_X6_standingOf lk_X6_67 im_X6_standingOf rfl sel_X6_standingOf hX.1 rfl rfl (Nat.le_of_ble_eq_true rfl) rfl ?_
            refine e_istore (lv' := [(5, .int (nI (stnd kf vf i))), (4, .int (nI i)), (3, .int (nI (stnd kf vf b))), (2, .int (nI b)), (0, .ref X.1), (1, .int (nI l))]) dX6_passes_51 (by decide) rfl ?_
            refine e_iload_n 3 dX6_passes_53 rfl ?_
            refine e_if_lt 67 dX6_passes_54 (by decide) (fun h => absurd h (nI_pos (by omega))) (fun _ => ?_)
            refine e_aload_n 4 dX6_passes_57 rfl ?_
            refine e_iload 0 dX6_passes_58 rfl ?_
            refine e_iload_n 2 dX6_passes_60 rfl ?_
            refine e_callV (ci := 6) (st := []) (st1 := [.int (bI (ahead kf vf (stnd kf vf i) (stnd kf vf b)))]) (As := [.int (nI (stnd kf vf i)), .int (nI (stnd kf vf b))]) (m_isAhead hX (by omega) (by omega)) dX6_passes_61 (by decide) cm_X6_isAhead lk_X6_55 im_X6_isAhead rfl sel_X6_isAhead hX.1 rfl rfl (Nat.le_of_ble_eq_true rfl) rfl ?_
            refine e_if_eqB 73 dX6_passes_64 (by decide) (fun q4 => ?_) (fun q4 => ?_)
            · skip
              refine e_iinc1N (lv' := [(4, .int (nI (i + 1))), (5, .int (nI (stnd kf vf i))), (3, .int (nI (stnd kf vf b))), (2, .int (nI b)), (0, .ref X.1), (1, .int (nI l))]) 1 dX6_passes_73 rfl (by decide) rfl ?_
              refine e_goto 7 dX6_passes_76 (by decide) ?_
              refine e_sub [0, 2, 3, 4, 5] rfl ?_
              exact ih (i + 1) (some b) (by omega) (by show some b = pkS kf vf (wtP kf l) i (lp (pkS kf vf (wtP kf l)) i none); rw [← hB, pkS, if_pos (by simp [wtP, q1, q2])]; rw [if_neg (by rw [q4]; decide)]) hB2
            · skip
              refine e_iload 1 dX6_passes_67 rfl ?_
              refine e_istore_n (lv' := [(2, .int (nI i)), (5, .int (nI (stnd kf vf i))), (4, .int (nI i)), (3, .int (nI (stnd kf vf b))), (0, .ref X.1), (1, .int (nI l))]) dX6_passes_69 (by decide) rfl ?_
              refine e_iload 1 dX6_passes_70 rfl ?_
              refine e_istore_n (lv' := [(3, .int (nI (stnd kf vf i))), (2, .int (nI i)), (5, .int (nI (stnd kf vf i))), (4, .int (nI i)), (0, .ref X.1), (1, .int (nI l))]) dX6_passes_72 (by decide) rfl ?_
              refine e_iinc1N (lv' := [(4, .int (nI (i + 1))), (3, .int (nI (stnd kf vf i))), (2, .int (nI i)), (5, .int (nI (stnd kf vf i))), (0, .ref X.1), (1, .int (nI l))]) 3 dX6_passes_73 rfl (by decide) rfl ?_
              refine e_goto 7 dX6_passes_76 (by decide) ?_
              refine e_sub [0, 1, 2, 4, 5] rfl ?_
              exact ih (i + 1) (some i) (by omega) (by show some i = pkS kf vf (wtP kf l) i (lp (pkS kf vf (wtP kf l)) i none); rw [← hB, pkS, if_pos (by simp [wtP, q1, q2])]; rw [if_pos q4]) (fun c hc => by cases hc; omega)
          · skip
            refine e_goto 73 dX6_passes_42 (by decide) ?_
            refine e_iinc1N (lv' := [(4, .int (nI (i + 1))), (3, .int (nI (stnd kf vf b))), (2, .int (nI b)), (0, .ref X.1), (1, .int (nI l))]) 0 dX6_passes_73 rfl (by decide) rfl ?_
            refine e_goto 7 dX6_passes_76 (by decide) ?_
            refine e_sub [0, 1, 2, 3, 4] rfl ?_
            exact ih (i + 1) (some b) (by omega) (by show some b = pkS kf vf (wtP kf l) i (lp (pkS kf vf (wtP kf l)) i none); rw [← hB, pkS, if_neg (by simp [wtP, q2])]) hB2
  refine e_lvs (lv' := [(0, .ref X.1), (1, .int (nI l))]) rfl ?_
  refine e_ic ((-1)) dX6_passes_0 (by decide) ?_
  refine e_istore_n (lv' := [(2, .int (-1)), (0, .ref X.1), (1, .int (nI l))]) dX6_passes_1 (by decide) rfl ?_
  refine e_ic ((-1)) dX6_passes_2 (by decide) ?_
  refine e_istore_n (lv' := [(3, .int (-1)), (2, .int (-1)), (0, .ref X.1), (1, .int (nI l))]) dX6_passes_3 (by decide) rfl ?_
  refine e_ic (nI 0) dX6_passes_4 (by decide) ?_
  refine e_istore (lv' := [(4, .int (nI 0)), (3, .int (-1)), (2, .int (-1)), (0, .ref X.1), (1, .int (nI l))]) dX6_passes_5 (by decide) rfl ?_
  refine e_sub [0, 1, 2, 3, 4] rfl ?_
  exact L n 0 none (by omega) rfl (fun c hc => by cases hc)
set_option maxRecDepth 100000 in
set_option maxHeartbeats 4000000 in
theorem m_added (hX : MW m X) {n : Nat} {a b c p q : Int32} (hn : kf 1 = nI n) (hn2 : n < 200) : Ev G 1 uX6_added [.ref X.1, .int a, .int b, .int c, .int p, .int q] (MM m X (kf, vf, lf)) (some (.int (nI n))) (MM m X (adK kf n a b c p q, vp_updL vf n (lvF kf vf n).2, lf)) := by
  refine Ev.of (by decide +kernel) (Nat.le_of_ble_eq_true rfl) ?_
  have L2 : ∀ (x : Int64), x = (lvF kf vf n).2 → ∀ (k i : Nat) (K : KF), i + k = 20 → K = lp (fun i k => ks k n i (nI 0)) i (upd kf 1 (nI (n + 1))) → EvB G 1 uX6_added (zz (MM m X (kf, vf, lf))) (nn (MM m X (kf, vf, lf))) (some (.int (nI n))) (MM m X (adK kf n a b c p q, vp_updL vf n (lvF kf vf n).2, lf)) 88 [(10, .int (nI i)), (7, .long x), (6, .int (nI n)), (0, .ref X.1), (1, .int a), (2, .int b), (3, .int c), (4, .int p), (5, .int q)] [] (MM m X (K, vf, lf)) := by
    intro x hx k
    induction k with
    | zero =>
      intro i K hi hK
      refine e_iload 0 dX6_added_88 rfl ?_
      refine e_bipush (v := nI 20) dX6_added_90 (by decide) ?_
      refine e_icmp_geN 110 dX6_added_92 (by decide) (by omega) (by omega) (fun _ => ?_) (fun h => absurd h (by omega))
      refine e_aload_n 3 dX6_added_110 rfl ?_
      refine e_mv hX dX6_added_111 fl_X6_14 ?_
      refine e_iload 2 dX6_added_114 rfl ?_
      refine e_lload 1 dX6_added_116 rfl ?_
      refine e_vst hX dX6_added_118 (by omega) ?_
      refine e_aload_n 3 dX6_added_119 rfl ?_
      refine e_iload 2 dX6_added_120 rfl ?_
      refine e_ic (nI 0) dX6_added_122 (by decide) ?_
      refine e_iload_n 4 dX6_added_123 rfl ?_
      refine e_callV (ci := 6) (st := []) (st1 := []) (As := [.int (nI n), .int (nI 0), .int a]) (m_set hX (kg_lt (by omega) (by omega))) dX6_added_124 (by decide) cm_X6_set lk_X6_59 im_X6_set rfl sel_X6_set hX.1 rfl rfl (Nat.le_of_ble_eq_true rfl) rfl ?_
      refine e_aload_n 3 dX6_added_127 rfl ?_
      refine e_iload 2 dX6_added_128 rfl ?_
      refine e_ic (nI 1) dX6_added_130 (by decide) ?_
      refine e_iload_n 5 dX6_added_131 rfl ?_
      refine e_callV (ci := 6) (st := []) (st1 := []) (As := [.int (nI n), .int (nI 1), .int b]) (m_set hX (kg_lt (by omega) (by omega))) dX6_added_132 (by decide) cm_X6_set lk_X6_59 im_X6_set rfl sel_X6_set hX.1 rfl rfl (Nat.le_of_ble_eq_true rfl) rfl ?_
      refine e_aload_n 3 dX6_added_135 rfl ?_
      refine e_iload 2 dX6_added_136 rfl ?_
      refine e_ic (nI 2) dX6_added_138 (by decide) ?_
      refine e_iload_n 6 dX6_added_139 rfl ?_
      refine e_callV (ci := 6) (st := []) (st1 := []) (As := [.int (nI n), .int (nI 2), .int c]) (m_set hX (kg_lt (by omega) (by omega))) dX6_added_140 (by decide) cm_X6_set lk_X6_59 im_X6_set rfl sel_X6_set hX.1 rfl rfl (Nat.le_of_ble_eq_true rfl) rfl ?_
      refine e_aload_n 3 dX6_added_143 rfl ?_
      refine e_iload 2 dX6_added_144 rfl ?_
      refine e_bipush (v := nI 7) dX6_added_146 (by decide) ?_
      refine e_ic ((-1)) dX6_added_148 (by decide) ?_
      refine e_callV (ci := 6) (st := []) (st1 := []) (As := [.int (nI n), .int (nI 7), .int (-1)]) (m_set hX (kg_lt (by omega) (by omega))) dX6_added_149 (by decide) cm_X6_set lk_X6_59 im_X6_set rfl sel_X6_set hX.1 rfl rfl (Nat.le_of_ble_eq_true rfl) rfl ?_
      refine e_aload_n 3 dX6_added_152 rfl ?_
      refine e_iload 2 dX6_added_153 rfl ?_
      refine e_bipush (v := nI 8) dX6_added_155 (by decide) ?_
      refine e_ic ((-1)) dX6_added_157 (by decide) ?_
      refine e_callV (ci := 6) (st := []) (st1 := []) (As := [.int (nI n), .int (nI 8), .int (-1)]) (m_set hX (kg_lt (by omega) (by omega))) dX6_added_158 (by decide) cm_X6_set lk_X6_59 im_X6_set rfl sel_X6_set hX.1 rfl rfl (Nat.le_of_ble_eq_true rfl) rfl ?_
      refine e_aload_n 3 dX6_added_161 rfl ?_
      refine e_iload 2 dX6_added_162 rfl ?_
      refine e_bipush (v := nI 14) dX6_added_164 (by decide) ?_
      refine e_ic ((-1)) dX6_added_166 (by decide) ?_
      refine e_callV (ci := 6) (st := []) (st1 := []) (As := [.int (nI n), .int (nI 14), .int (-1)]) (m_set hX (kg_lt (by omega) (by omega))) dX6_added_167 (by decide) cm_X6_set lk_X6_59 im_X6_set rfl sel_X6_set hX.1 rfl rfl (Nat.le_of_ble_eq_true rfl) rfl ?_
      refine e_aload_n 3 dX6_added_170 rfl ?_
      refine e_iload 2 dX6_added_171 rfl ?_
      refine e_bipush (v := nI 10) dX6_added_173 (by decide) ?_
      refine e_iload 7 dX6_added_175 rfl ?_
      refine e_callV (ci := 6) (st := []) (st1 := []) (As := [.int (nI n), .int (nI 10), .int p]) (m_set hX (kg_lt (by omega) (by omega))) dX6_added_177 (by decide) cm_X6_set lk_X6_59 im_X6_set rfl sel_X6_set hX.1 rfl rfl (Nat.le_of_ble_eq_true rfl) rfl ?_
      refine e_aload_n 3 dX6_added_180 rfl ?_
      refine e_iload 2 dX6_added_181 rfl ?_
      refine e_bipush (v := nI 11) dX6_added_183 (by decide) ?_
      refine e_iload 8 dX6_added_185 rfl ?_
      refine e_callV (ci := 6) (st := []) (st1 := []) (As := [.int (nI n), .int (nI 11), .int q]) (m_set hX (kg_lt (by omega) (by omega))) dX6_added_187 (by decide) cm_X6_set lk_X6_59 im_X6_set rfl sel_X6_set hX.1 rfl rfl (Nat.le_of_ble_eq_true rfl) rfl ?_
      refine e_aload_n 3 dX6_added_190 rfl ?_
      refine e_iload 2 dX6_added_191 rfl ?_
      refine e_bipush (v := nI 12) dX6_added_193 (by decide) ?_
      refine e_aload_n 3 dX6_added_195 rfl ?_
      refine e_mk hX dX6_added_196 fl_X6_8 ?_
      refine e_ic (nI 0) dX6_added_199 (by decide) ?_
      refine e_kld hX dX6_added_200 (by omega) ?_
      refine e_iload 7 dX6_added_201 rfl ?_
      refine e_iadd dX6_added_203 ?_
      refine e_callV (ci := 6) (st := []) (st1 := []) (As := [.int (nI n), .int (nI 12), .int (((ks (ks (ks (ks (ks (ks (ks (ks K n 0 a) n 1 b) n 2 c) n 7 (-1)) n 8 (-1)) n 14 (-1)) n 10 p) n 11 q) (0)) + p)]) (m_set hX (kg_lt (by omega) (by omega))) dX6_added_204 (by decide) cm_X6_set lk_X6_59 im_X6_set rfl sel_X6_set hX.1 rfl rfl (Nat.le_of_ble_eq_true rfl) rfl ?_
      refine e_aload_n 3 dX6_added_207 rfl ?_
      refine e_iload 2 dX6_added_208 rfl ?_
      refine e_bipush (v := nI 13) dX6_added_210 (by decide) ?_
      refine e_iload 8 dX6_added_212 rfl ?_
      refine e_callV (ci := 6) (st := []) (st1 := []) (As := [.int (nI n), .int (nI 13), .int q]) (m_set hX (kg_lt (by omega) (by omega))) dX6_added_214 (by decide) cm_X6_set lk_X6_59 im_X6_set rfl sel_X6_set hX.1 rfl rfl (Nat.le_of_ble_eq_true rfl) rfl ?_
      refine e_iload 2 dX6_added_217 rfl ?_
      exact e_retI dX6_added_219 rfl rfl rfl (by rw [hx, adK, hK, show i = 20 by omega])
    | succ k ih =>
      intro i K hi hK
      refine e_iload 0 dX6_added_88 rfl ?_
      refine e_bipush (v := nI 20) dX6_added_90 (by decide) ?_
      refine e_icmp_geN 110 dX6_added_92 (by decide) (by omega) (by omega) (fun h => absurd h (by omega)) (fun _ => ?_)
      refine e_aload_n 3 dX6_added_95 rfl ?_
      refine e_iload 2 dX6_added_96 rfl ?_
      refine e_iload 0 dX6_added_98 rfl ?_
      refine e_ic (nI 0) dX6_added_100 (by decide) ?_
      refine e_callV (ci := 6) (st := []) (st1 := []) (As := [.int (nI n), .int (nI i), .int (nI 0)]) (m_set hX (kg_lt (by omega) (by omega))) dX6_added_101 (by decide) cm_X6_set lk_X6_59 im_X6_set rfl sel_X6_set hX.1 rfl rfl (Nat.le_of_ble_eq_true rfl) rfl ?_
      refine e_iinc1N (lv' := [(10, .int (nI (i + 1))), (7, .long x), (6, .int (nI n)), (0, .ref X.1), (1, .int a), (2, .int b), (3, .int c), (4, .int p), (5, .int q)]) 0 dX6_added_104 rfl (by decide) rfl ?_
      refine e_goto 88 dX6_added_107 (by decide) ?_
      refine e_sub [0, 1, 2, 3, 4, 5, 6, 7, 8] rfl ?_
      exact ih (i + 1) (ks K n i (nI 0)) (by omega) (by rw [hK]; rfl)
  have L1 : ∀ (k i : Nat) (a' : Bool) (x : Int64), i + k = n → (a', x) = lp (lvS kf vf) i (false, 0) → EvB G 1 uX6_added (zz (MM m X (kf, vf, lf))) (nn (MM m X (kf, vf, lf))) (some (.int (nI n))) (MM m X (adK kf n a b c p q, vp_updL vf n (lvF kf vf n).2, lf)) 17 [(10, .int (nI i)), (9, .int (bI a')), (7, .long x), (6, .int (nI n)), (0, .ref X.1), (1, .int a), (2, .int b), (3, .int c), (4, .int p), (5, .int q)] [] (MM m X (kf, vf, lf)) := by
    intro k
    induction k with
    | zero =>
      intro i a' x hi hA
      refine e_iload 0 dX6_added_17 rfl ?_
      refine e_iload 3 dX6_added_19 rfl ?_
      refine e_icmp_geN 75 dX6_added_21 (by decide) (by omega) (by omega) (fun _ => ?_) (fun h => absurd h (by omega))
      refine e_aload_n 4 dX6_added_75 rfl ?_
      refine e_mk hX dX6_added_76 fl_X6_8 ?_
      refine e_ic (nI 1) dX6_added_79 (by decide) ?_
      refine e_dup2 dX6_added_80 rfl rfl ?_
      refine e_kld hX dX6_added_81 (by omega) (e_iv (w := nI n) (hn) ?_)
      refine e_ic (nI 1) dX6_added_82 (by decide) ?_
      refine e_iaddN dX6_added_83 ?_
      refine e_kst hX dX6_added_84 (by omega) ?_
      refine e_ic (nI 0) dX6_added_85 (by decide) ?_
      refine e_istore (lv' := [(10, .int (nI 0)), (9, .int (bI a')), (7, .long x), (6, .int (nI n)), (0, .ref X.1), (1, .int a), (2, .int b), (3, .int c), (4, .int p), (5, .int q)]) dX6_added_86 (by decide) rfl ?_
      refine e_sub [0, 2, 3, 4, 5, 6, 7, 8, 9] rfl ?_
      exact L2 x (by rw [lvF, ← show i = n by omega, ← hA]) 20 0 (upd kf 1 (nI (n + 1))) (by omega) rfl
    | succ k ih =>
      intro i a' x hi hA
      refine e_iload 0 dX6_added_17 rfl ?_
      refine e_iload 3 dX6_added_19 rfl ?_
      refine e_icmp_geN 75 dX6_added_21 (by decide) (by omega) (by omega) (fun h => absurd h (by omega)) (fun _ => ?_)
      refine e_aload_n 4 dX6_added_24 rfl ?_
      refine e_iload 0 dX6_added_25 rfl ?_
      refine e_bipush (v := nI 6) dX6_added_27 (by decide) ?_
      refine e_callV (ci := 6) (st := []) (st1 := [.int (kg kf i 6)]) (As := [.int (nI i), .int (nI 6)]) (m_get hX (kg_lt (by omega) (by omega))) dX6_added_29 (by decide) cm_X6_get lk_X6_36 im_X6_get rfl sel_X6_get hX.1 rfl rfl (Nat.le_of_ble_eq_true rfl) rfl ?_
      refine e_ic (nI 4) dX6_added_32 (by decide) ?_
      refine e_iv (w := 4) rfl ?_
      refine e_icmp_eq 69 dX6_added_33 (by decide) (fun r1 => ?_) (fun r1 => ?_)
      · skip
        refine e_iinc1N (lv' := [(10, .int (nI (i + 1))), (9, .int (bI a')), (7, .long x), (6, .int (nI n)), (0, .ref X.1), (1, .int a), (2, .int b), (3, .int c), (4, .int p), (5, .int q)]) 0 dX6_added_69 rfl (by decide) rfl ?_
        refine e_goto 17 dX6_added_72 (by decide) ?_
        refine e_sub [0, 1, 2, 3, 4, 5, 6, 7, 8, 9] rfl ?_
        exact ih (i + 1) a' x (by omega) (by show _ = lvS kf vf i (lp (lvS kf vf) i (false, 0)); rw [← hA, lvS]; dsimp only; rw [if_pos (Or.inl r1)])
      · skip
        refine e_iload 1 dX6_added_36 rfl ?_
        refine e_if_eqB 57 dX6_added_38 (by decide) (fun r2 => ?_) (fun r2 => ?_)
        · skip
          refine e_aload_n 4 dX6_added_57 rfl ?_
          refine e_mv hX dX6_added_58 fl_X6_14 ?_
          refine e_iload 0 dX6_added_61 rfl ?_
          refine e_vld hX dX6_added_63 (by omega) ?_
          refine e_lstore (lv' := [(7, .long (vf (i))), (10, .int (nI i)), (9, .int (bI a')), (6, .int (nI n)), (0, .ref X.1), (1, .int a), (2, .int b), (3, .int c), (4, .int p), (5, .int q)]) dX6_added_64 (by decide) rfl ?_
          refine e_ic (nI 1) dX6_added_66 (by decide) ?_
          refine e_istore (lv' := [(9, .int (nI 1)), (7, .long (vf (i))), (10, .int (nI i)), (6, .int (nI n)), (0, .ref X.1), (1, .int a), (2, .int b), (3, .int c), (4, .int p), (5, .int q)]) dX6_added_67 (by decide) rfl ?_
          refine e_iinc1N (lv' := [(10, .int (nI (i + 1))), (9, .int (nI 1)), (7, .long (vf (i))), (6, .int (nI n)), (0, .ref X.1), (1, .int a), (2, .int b), (3, .int c), (4, .int p), (5, .int q)]) 2 dX6_added_69 rfl (by decide) rfl ?_
          refine e_goto 17 dX6_added_72 (by decide) ?_
          refine e_sub [0, 1, 2, 3, 4, 5, 6, 7, 8, 9] rfl ?_
          exact ih (i + 1) true (vf i) (by omega) (by show _ = lvS kf vf i (lp (lvS kf vf) i (false, 0)); rw [← hA, lvS]; dsimp only; rw [if_neg (fun h => h.elim r1 (fun z => absurd z.1 (by rw [r2]; decide)))])
        · skip
          refine e_aload_n 4 dX6_added_41 rfl ?_
          refine e_mv hX dX6_added_42 fl_X6_14 ?_
          refine e_iload 0 dX6_added_45 rfl ?_
          refine e_vld hX dX6_added_47 (by omega) ?_
          refine e_lload 2 dX6_added_48 rfl ?_
          refine e_lcmp dX6_added_50 ?_
          refine e_lc_lt 57 dX6_added_51 (by decide) (fun r3 => ?_) (fun r3 => ?_)
          · skip
            have r3' := Int64.not_le.mpr r3
            refine e_aload_n 4 dX6_added_57 rfl ?_
            refine e_mv hX dX6_added_58 fl_X6_14 ?_
            refine e_iload 0 dX6_added_61 rfl ?_
            refine e_vld hX dX6_added_63 (by omega) ?_
            refine e_lstore (lv' := [(7, .long (vf (i))), (10, .int (nI i)), (9, .int (bI a')), (6, .int (nI n)), (0, .ref X.1), (1, .int a), (2, .int b), (3, .int c), (4, .int p), (5, .int q)]) dX6_added_64 (by decide) rfl ?_
            refine e_ic (nI 1) dX6_added_66 (by decide) ?_
            refine e_istore (lv' := [(9, .int (nI 1)), (7, .long (vf (i))), (10, .int (nI i)), (6, .int (nI n)), (0, .ref X.1), (1, .int a), (2, .int b), (3, .int c), (4, .int p), (5, .int q)]) dX6_added_67 (by decide) rfl ?_
            refine e_iinc1N (lv' := [(10, .int (nI (i + 1))), (9, .int (nI 1)), (7, .long (vf (i))), (6, .int (nI n)), (0, .ref X.1), (1, .int a), (2, .int b), (3, .int c), (4, .int p), (5, .int q)]) 2 dX6_added_69 rfl (by decide) rfl ?_
            refine e_goto 17 dX6_added_72 (by decide) ?_
            refine e_sub [0, 1, 2, 3, 4, 5, 6, 7, 8, 9] rfl ?_
            exact ih (i + 1) true (vf i) (by omega) (by show _ = lvS kf vf i (lp (lvS kf vf) i (false, 0)); rw [← hA, lvS]; dsimp only; rw [if_neg (fun h => h.elim r1 (fun z => z.2 r3))])
          · skip
            have r3' := Int64.not_lt.mp r3
            refine e_goto 69 dX6_added_54 (by decide) ?_
            refine e_iinc1N (lv' := [(10, .int (nI (i + 1))), (9, .int (bI a')), (7, .long x), (6, .int (nI n)), (0, .ref X.1), (1, .int a), (2, .int b), (3, .int c), (4, .int p), (5, .int q)]) 0 dX6_added_69 rfl (by decide) rfl ?_
            refine e_goto 17 dX6_added_72 (by decide) ?_
            refine e_sub [0, 1, 2, 3, 4, 5, 6, 7, 8, 9] rfl ?_
            exact ih (i + 1) a' x (by omega) (by show _ = lvS kf vf i (lp (lvS kf vf) i (false, 0)); rw [← hA, lvS]; dsimp only; rw [if_pos (Or.inr ⟨r2, r3⟩)])
  refine e_lvs (lv' := [(0, .ref X.1), (1, .int a), (2, .int b), (3, .int c), (4, .int p), (5, .int q)]) rfl ?_
  refine e_aload_n 0 dX6_added_0 rfl ?_
  refine e_mk hX dX6_added_1 fl_X6_8 ?_
  refine e_ic (nI 1) dX6_added_4 (by decide) ?_
  refine e_kld hX dX6_added_5 (by omega) (e_iv (w := nI n) (hn) ?_)
  refine e_istore (lv' := [(6, .int (nI n)), (0, .ref X.1), (1, .int a), (2, .int b), (3, .int c), (4, .int p), (5, .int q)]) dX6_added_6 (by decide) rfl ?_
  refine e_lconst (v := lN 0) dX6_added_8 (by decide) ?_
  refine e_lstore (lv' := [(7, .long (lN 0)), (6, .int (nI n)), (0, .ref X.1), (1, .int a), (2, .int b), (3, .int c), (4, .int p), (5, .int q)]) dX6_added_9 (by decide) rfl ?_
  refine e_ic (nI 0) dX6_added_11 (by decide) ?_
  refine e_istore (lv' := [(9, .int (nI 0)), (7, .long (lN 0)), (6, .int (nI n)), (0, .ref X.1), (1, .int a), (2, .int b), (3, .int c), (4, .int p), (5, .int q)]) dX6_added_12 (by decide) rfl ?_
  refine e_ic (nI 0) dX6_added_14 (by decide) ?_
  refine e_istore (lv' := [(10, .int (nI 0)), (9, .int (nI 0)), (7, .long (lN 0)), (6, .int (nI n)), (0, .ref X.1), (1, .int a), (2, .int b), (3, .int c), (4, .int p), (5, .int q)]) dX6_added_15 (by decide) rfl ?_
  refine e_sub [0, 1, 2, 3, 4, 5, 6, 7, 8, 9] rfl ?_
  exact L1 n 0 false 0 (by omega) rfl
end Model4
