/-! the reference: waits, isReadyNow, isOf, pay -/
section Model2
variable {G : GG} {m : Mem} {X : XX} {kf : KF} {vf : VF} {lf : Nat → Int32}
set_option maxRecDepth 100000 in
set_option maxHeartbeats 4000000 in
theorem m_isReadyNow (hX : MW m X) {t : Nat} (h : t < 200) : Ev G 1 uX6_isReadyNow [.ref X.1, .int (nI t)] (MM m X (kf, vf, lf)) none (MM m X (rdy kf t, vf, lf)) := by
  refine Ev.of (by decide +kernel) (Nat.le_of_ble_eq_true rfl) ?_
  refine e_lvs (lv' := [(0, .ref X.1), (1, .int (nI t))]) rfl ?_
  refine e_aload_n 0 dX6_isReadyNow_0 rfl ?_
  refine e_iload_n 1 dX6_isReadyNow_1 rfl ?_
  refine e_bipush (v := nI 6) dX6_isReadyNow_2 (by decide) ?_
  refine e_ic (nI 0) dX6_isReadyNow_4 (by decide) ?_
  refine e_callV (ci := 6) (st := []) (st1 := []) (As := [.int (nI t), .int (nI 6), .int (nI 0)]) (m_set hX (kg_lt (by omega) (by decide))) dX6_isReadyNow_5 (by decide) cm_X6_set lk_X6_59 im_X6_set rfl sel_X6_set hX.1 rfl rfl (Nat.le_of_ble_eq_true rfl) rfl ?_
  refine e_aload_n 0 dX6_isReadyNow_8 rfl ?_
  refine e_iload_n 1 dX6_isReadyNow_9 rfl ?_
  refine e_bipush (v := nI 7) dX6_isReadyNow_10 (by decide) ?_
  refine e_ic ((-1)) dX6_isReadyNow_12 (by decide) ?_
  refine e_callV (ci := 6) (st := []) (st1 := []) (As := [.int (nI t), .int (nI 7), .int (-1)]) (m_set hX (kg_lt (by omega) (by decide))) dX6_isReadyNow_13 (by decide) cm_X6_set lk_X6_59 im_X6_set rfl sel_X6_set hX.1 rfl rfl (Nat.le_of_ble_eq_true rfl) rfl ?_
  refine e_aload_n 0 dX6_isReadyNow_16 rfl ?_
  refine e_iload_n 1 dX6_isReadyNow_17 rfl ?_
  refine e_bipush (v := nI 8) dX6_isReadyNow_18 (by decide) ?_
  refine e_ic ((-1)) dX6_isReadyNow_20 (by decide) ?_
  refine e_callV (ci := 6) (st := []) (st1 := []) (As := [.int (nI t), .int (nI 8), .int (-1)]) (m_set hX (kg_lt (by omega) (by decide))) dX6_isReadyNow_21 (by decide) cm_X6_set lk_X6_59 im_X6_set rfl sel_X6_set hX.1 rfl rfl (Nat.le_of_ble_eq_true rfl) rfl ?_
  exact e_retV dX6_isReadyNow_24 rfl rfl
set_option maxRecDepth 100000 in
set_option maxHeartbeats 4000000 in
theorem m_waits (hX : MW m X) {t : Nat} {a b c : Int32} (h : t < 200) : Ev G 1 uX6_waits [.ref X.1, .int (nI t), .int a, .int b, .int c] (MM m X (kf, vf, lf)) none (MM m X (wts kf t a b c, vf, lf)) := by
  refine Ev.of (by decide +kernel) (Nat.le_of_ble_eq_true rfl) ?_
  refine e_lvs (lv' := [(0, .ref X.1), (1, .int (nI t)), (2, .int a), (3, .int b), (4, .int c)]) rfl ?_
  refine e_aload_n 0 dX6_waits_0 rfl ?_
  refine e_iload_n 1 dX6_waits_1 rfl ?_
  refine e_bipush (v := nI 6) dX6_waits_2 (by decide) ?_
  refine e_iload_n 2 dX6_waits_4 rfl ?_
  refine e_callV (ci := 6) (st := []) (st1 := []) (As := [.int (nI t), .int (nI 6), .int a]) (m_set hX (kg_lt (by omega) (by decide))) dX6_waits_5 (by decide) cm_X6_set lk_X6_59 im_X6_set rfl sel_X6_set hX.1 rfl rfl (Nat.le_of_ble_eq_true rfl) rfl ?_
  refine e_aload_n 0 dX6_waits_8 rfl ?_
  refine e_iload_n 1 dX6_waits_9 rfl ?_
  refine e_bipush (v := nI 7) dX6_waits_10 (by decide) ?_
  refine e_iload_n 3 dX6_waits_12 rfl ?_
  refine e_callV (ci := 6) (st := []) (st1 := []) (As := [.int (nI t), .int (nI 7), .int b]) (m_set hX (kg_lt (by omega) (by decide))) dX6_waits_13 (by decide) cm_X6_set lk_X6_59 im_X6_set rfl sel_X6_set hX.1 rfl rfl (Nat.le_of_ble_eq_true rfl) rfl ?_
  refine e_aload_n 0 dX6_waits_16 rfl ?_
  refine e_iload_n 1 dX6_waits_17 rfl ?_
  refine e_bipush (v := nI 8) dX6_waits_18 (by decide) ?_
  refine e_iload 4 dX6_waits_20 rfl ?_
  refine e_callV (ci := 6) (st := []) (st1 := []) (As := [.int (nI t), .int (nI 8), .int c]) (m_set hX (kg_lt (by omega) (by decide))) dX6_waits_22 (by decide) cm_X6_set lk_X6_59 im_X6_set rfl sel_X6_set hX.1 rfl rfl (Nat.le_of_ble_eq_true rfl) rfl ?_
  refine e_aload_n 0 dX6_waits_25 rfl ?_
  refine e_iload_n 1 dX6_waits_26 rfl ?_
  refine e_ic (nI 0) dX6_waits_27 (by decide) ?_
  refine e_callV (ci := 6) (st := []) (st1 := [.int (kg (ks (ks (ks kf t 6 a) t 7 b) t 8 c) t 0)]) (As := [.int (nI t), .int (nI 0)]) (m_get hX (kg_lt (by omega) (by omega))) dX6_waits_28 (by decide) cm_X6_get lk_X6_36 im_X6_get rfl sel_X6_get hX.1 rfl rfl (Nat.le_of_ble_eq_true rfl) rfl ?_
  refine e_istore (lv' := [(5, .int (kg (ks (ks (ks kf t 6 a) t 7 b) t 8 c) t 0)), (0, .ref X.1), (1, .int (nI t)), (2, .int a), (3, .int b), (4, .int c)]) dX6_waits_31 (by decide) rfl ?_
  refine e_iload 0 dX6_waits_33 rfl ?_
  refine e_ic (nI 3) dX6_waits_35 (by decide) ?_
  refine e_iv (w := 3) rfl ?_
  refine e_icmp_eq 45 dX6_waits_36 (by decide) (fun h1 => ?_) (fun h1 => ?_)
  · skip
    refine e_aload_n 1 dX6_waits_45 rfl ?_
    refine e_ic (nI 4) dX6_waits_46 (by decide) ?_
    refine e_callV (ci := 6) (st := []) (st1 := []) (As := [.int (nI 4)]) (m_body hX (by omega)) dX6_waits_47 (by decide) cm_X6_body lk_X6_63 im_X6_body rfl sel_X6_body hX.1 rfl rfl (Nat.le_of_ble_eq_true rfl) rfl ?_
    refine e_iload 0 dX6_waits_50 rfl ?_
    refine e_ic (nI 2) dX6_waits_52 (by decide) ?_
    refine e_iv (w := 2) rfl ?_
    refine e_icmp_ne 61 dX6_waits_53 (by decide) (fun _ => ?_) (fun h => absurd h (by rw [h1]; decide))
    refine e_aload_n 1 dX6_waits_61 rfl ?_
    refine e_ic (nI 3) dX6_waits_62 (by decide) ?_
    refine e_callV (ci := 6) (st := []) (st1 := []) (As := [.int (nI 3)]) (m_body hX (by omega)) dX6_waits_63 (by decide) cm_X6_body lk_X6_63 im_X6_body rfl sel_X6_body hX.1 rfl rfl (Nat.le_of_ble_eq_true rfl) rfl ?_
    exact e_retV dX6_waits_66 rfl rfl (by first | (simp [wts, *]; done) | (exfalso; simp_all; done))
  · skip
    refine e_iload 0 dX6_waits_39 rfl ?_
    refine e_ic (nI 4) dX6_waits_41 (by decide) ?_
    refine e_iv (w := 4) rfl ?_
    refine e_icmp_ne 50 dX6_waits_42 (by decide) (fun h2 => ?_) (fun h2 => ?_)
    · skip
      refine e_iload 0 dX6_waits_50 rfl ?_
      refine e_ic (nI 2) dX6_waits_52 (by decide) ?_
      refine e_iv (w := 2) rfl ?_
      refine e_icmp_ne 61 dX6_waits_53 (by decide) (fun h3 => ?_) (fun h3 => ?_)
      · skip
        refine e_aload_n 1 dX6_waits_61 rfl ?_
        refine e_ic (nI 3) dX6_waits_62 (by decide) ?_
        refine e_callV (ci := 6) (st := []) (st1 := []) (As := [.int (nI 3)]) (m_body hX (by omega)) dX6_waits_63 (by decide) cm_X6_body lk_X6_63 im_X6_body rfl sel_X6_body hX.1 rfl rfl (Nat.le_of_ble_eq_true rfl) rfl ?_
        exact e_retV dX6_waits_66 rfl rfl (by first | (simp [wts, *]; done) | (exfalso; simp_all; done))
      · skip
        refine e_aload_n 1 dX6_waits_56 rfl ?_
        refine e_ic (nI 5) dX6_waits_57 (by decide) ?_
        refine e_callV (ci := 6) (st := []) (st1 := []) (As := [.int (nI 5)]) (m_body hX (by omega)) dX6_waits_58 (by decide) cm_X6_body lk_X6_63 im_X6_body rfl sel_X6_body hX.1 rfl rfl (Nat.le_of_ble_eq_true rfl) rfl ?_
        refine e_aload_n 1 dX6_waits_61 rfl ?_
        refine e_ic (nI 3) dX6_waits_62 (by decide) ?_
        refine e_callV (ci := 6) (st := []) (st1 := []) (As := [.int (nI 3)]) (m_body hX (by omega)) dX6_waits_63 (by decide) cm_X6_body lk_X6_63 im_X6_body rfl sel_X6_body hX.1 rfl rfl (Nat.le_of_ble_eq_true rfl) rfl ?_
        exact e_retV dX6_waits_66 rfl rfl (by first | (simp [wts, *]; done) | (exfalso; simp_all; done))
    · skip
      refine e_aload_n 1 dX6_waits_45 rfl ?_
      refine e_ic (nI 4) dX6_waits_46 (by decide) ?_
      refine e_callV (ci := 6) (st := []) (st1 := []) (As := [.int (nI 4)]) (m_body hX (by omega)) dX6_waits_47 (by decide) cm_X6_body lk_X6_63 im_X6_body rfl sel_X6_body hX.1 rfl rfl (Nat.le_of_ble_eq_true rfl) rfl ?_
      refine e_iload 0 dX6_waits_50 rfl ?_
      refine e_ic (nI 2) dX6_waits_52 (by decide) ?_
      refine e_iv (w := 2) rfl ?_
      refine e_icmp_ne 61 dX6_waits_53 (by decide) (fun _ => ?_) (fun h => absurd h (by rw [h2]; decide))
      refine e_aload_n 1 dX6_waits_61 rfl ?_
      refine e_ic (nI 3) dX6_waits_62 (by decide) ?_
      refine e_callV (ci := 6) (st := []) (st1 := []) (As := [.int (nI 3)]) (m_body hX (by omega)) dX6_waits_63 (by decide) cm_X6_body lk_X6_63 im_X6_body rfl sel_X6_body hX.1 rfl rfl (Nat.le_of_ble_eq_true rfl) rfl ?_
      exact e_retV dX6_waits_66 rfl rfl (by first | (simp [wts, *]; done) | (exfalso; simp_all; done))
set_option maxRecDepth 100000 in
set_option maxHeartbeats 4000000 in
theorem m_isOf (q n : Int32) (m : Mem) : Ev G 0 uX6_isOf [.int q, .int n] m (some (.int (bI (isOfB q n)))) m := by
  refine Ev.of (by decide +kernel) (Nat.le_of_ble_eq_true rfl) ?_
  refine e_lvs (lv' := [(0, .int q), (1, .int n)]) rfl ?_
  refine e_iload_n 1 dX6_isOf_0 rfl ?_
  refine e_if_eq 29 dX6_isOf_1 (by decide) (fun h1 => ?_) (fun h1 => ?_)
  · skip
    refine e_ic (nI 1) dX6_isOf_29 (by decide) ?_
    refine e_goto 34 dX6_isOf_30 (by decide) ?_
    exact e_retI dX6_isOf_34 rfl rfl (bI_t (by first | (simp [isOfB, *]; done) | (simp_all [isOfB]; done))) rfl
  · skip
    refine e_iload_n 1 dX6_isOf_4 rfl ?_
    refine e_iload_n 0 dX6_isOf_5 rfl ?_
    refine e_icmp_eq 29 dX6_isOf_6 (by decide) (fun h2 => ?_) (fun h2 => ?_)
    · skip
      refine e_ic (nI 1) dX6_isOf_29 (by decide) ?_
      refine e_goto 34 dX6_isOf_30 (by decide) ?_
      exact e_retI dX6_isOf_34 rfl rfl (bI_t (by first | (simp [isOfB, *]; done) | (simp_all [isOfB]; done))) rfl
    · skip
      refine e_iload_n 1 dX6_isOf_9 rfl ?_
      refine e_ic (nI 1) dX6_isOf_10 (by decide) ?_
      refine e_iv (w := 1) rfl ?_
      refine e_icmp_ne 19 dX6_isOf_11 (by decide) (fun h3 => ?_) (fun h3 => ?_)
      · skip
        refine e_iload_n 1 dX6_isOf_19 rfl ?_
        refine e_ic (nI 3) dX6_isOf_20 (by decide) ?_
        refine e_iv (w := 3) rfl ?_
        refine e_icmp_ne 33 dX6_isOf_21 (by decide) (fun h4 => ?_) (fun h4 => ?_)
        · skip
          refine e_ic (nI 0) dX6_isOf_33 (by decide) ?_
          exact e_retI dX6_isOf_34 rfl rfl (bI_f (by first | (simp [isOfB, *]; done) | (simp_all [isOfB]; done))) rfl
        · skip
          refine e_iload_n 0 dX6_isOf_24 rfl ?_
          refine e_ic (nI 4) dX6_isOf_25 (by decide) ?_
          refine e_iv (w := 4) rfl ?_
          refine e_icmp_ne 33 dX6_isOf_26 (by decide) (fun h5 => ?_) (fun h5 => ?_)
          · skip
            refine e_ic (nI 0) dX6_isOf_33 (by decide) ?_
            exact e_retI dX6_isOf_34 rfl rfl (bI_f (by first | (simp [isOfB, *]; done) | (simp_all [isOfB]; done))) rfl
          · skip
            refine e_ic (nI 1) dX6_isOf_29 (by decide) ?_
            refine e_goto 34 dX6_isOf_30 (by decide) ?_
            exact e_retI dX6_isOf_34 rfl rfl (bI_t (by first | (simp [isOfB, *]; done) | (simp_all [isOfB]; done))) rfl
      · skip
        refine e_iload_n 0 dX6_isOf_14 rfl ?_
        refine e_ic (nI 2) dX6_isOf_15 (by decide) ?_
        refine e_iv (w := 2) rfl ?_
        refine e_icmp_eq 29 dX6_isOf_16 (by decide) (fun h6 => ?_) (fun h6 => ?_)
        · skip
          refine e_ic (nI 1) dX6_isOf_29 (by decide) ?_
          refine e_goto 34 dX6_isOf_30 (by decide) ?_
          exact e_retI dX6_isOf_34 rfl rfl (bI_t (by first | (simp [isOfB, *]; done) | (simp_all [isOfB]; done))) rfl
        · skip
          refine e_iload_n 1 dX6_isOf_19 rfl ?_
          refine e_ic (nI 3) dX6_isOf_20 (by decide) ?_
          refine e_iv (w := 3) rfl ?_
          refine e_icmp_ne 33 dX6_isOf_21 (by decide) (fun _ => ?_) (fun h => absurd h (by rw [h3]; decide))
          refine e_ic (nI 0) dX6_isOf_33 (by decide) ?_
          exact e_retI dX6_isOf_34 rfl rfl (bI_f (by first | (simp [isOfB, *]; done) | (simp_all [isOfB]; done))) rfl
set_option maxRecDepth 100000 in
set_option maxHeartbeats 4000000 in
theorem m_pay (hX : MW m X) {t : Nat} (h : t < 200) (hs : ¬ kg kf t 2 = 0) : Ev G 1 uX6_pay [.ref X.1, .int (nI t)] (MM m X (kf, vf, lf)) (some (.int (nI 0))) (MM m X (payK kf t, payV kf vf t, lf)) := by
  refine Ev.of (by decide +kernel) (Nat.le_of_ble_eq_true rfl) ?_
  refine e_lvs (lv' := [(0, .ref X.1), (1, .int (nI t))]) rfl ?_
  refine e_sipush (v := nI 1000) dX6_pay_0 (by decide) ?_
  refine e_aload_n 0 dX6_pay_3 rfl ?_
  refine e_iload_n 1 dX6_pay_4 rfl ?_
  refine e_ic (nI 3) dX6_pay_5 (by decide) ?_
  refine e_callV (ci := 6) (st := [.int (nI 1000)]) (st1 := [.int (kg kf t 3), .int (nI 1000)]) (As := [.int (nI t), .int (nI 3)]) (m_get hX (kg_lt (by omega) (by omega))) dX6_pay_6 (by decide) cm_X6_get lk_X6_36 im_X6_get rfl sel_X6_get hX.1 rfl rfl (Nat.le_of_ble_eq_true rfl) rfl ?_
  refine e_iadd dX6_pay_9 ?_
  refine e_istore_n (lv' := [(2, .int ((nI 1000) + (kg kf t 3))), (0, .ref X.1), (1, .int (nI t))]) dX6_pay_10 (by decide) rfl ?_
  refine e_aload_n 1 dX6_pay_11 rfl ?_
  refine e_mv hX dX6_pay_12 fl_X6_14 ?_
  refine e_iload_n 2 dX6_pay_15 rfl ?_
  refine e_dup2 dX6_pay_16 rfl rfl ?_
  refine e_vld hX dX6_pay_17 (by omega) ?_
  refine e_iload_n 0 dX6_pay_18 rfl ?_
  refine e_aload_n 1 dX6_pay_19 rfl ?_
  refine e_iload_n 2 dX6_pay_20 rfl ?_
  refine e_ic (nI 2) dX6_pay_21 (by decide) ?_
  refine e_callV (ci := 6) (st := [.int ((nI 1000) + (kg kf t 3)), .long (vf (t)), .int (nI t), .ref X.2.2.1]) (st1 := [.int (kg kf t 2), .int ((nI 1000) + (kg kf t 3)), .long (vf (t)), .int (nI t), .ref X.2.2.1]) (As := [.int (nI t), .int (nI 2)]) (m_get hX (kg_lt (by omega) (by omega))) dX6_pay_22 (by decide) cm_X6_get lk_X6_36 im_X6_get rfl sel_X6_get hX.1 rfl rfl (Nat.le_of_ble_eq_true rfl) rfl ?_
  refine e_idiv dX6_pay_25 (hs) ?_
  refine e_i2l dX6_pay_26 ?_
  refine e_ladd dX6_pay_27 ?_
  refine e_vst hX dX6_pay_28 (by omega) ?_
  refine e_aload_n 1 dX6_pay_29 rfl ?_
  refine e_iload_n 2 dX6_pay_30 rfl ?_
  refine e_ic (nI 3) dX6_pay_31 (by decide) ?_
  refine e_iload_n 0 dX6_pay_32 rfl ?_
  refine e_aload_n 1 dX6_pay_33 rfl ?_
  refine e_iload_n 2 dX6_pay_34 rfl ?_
  refine e_ic (nI 2) dX6_pay_35 (by decide) ?_
  refine e_callV (ci := 6) (st := [.int ((nI 1000) + (kg kf t 3)), .int (nI 3), .int (nI t), .ref X.1]) (st1 := [.int (kg kf t 2), .int ((nI 1000) + (kg kf t 3)), .int (nI 3), .int (nI t), .ref X.1]) (As := [.int (nI t), .int (nI 2)]) (m_get hX (kg_lt (by omega) (by omega))) dX6_pay_36 (by decide) cm_X6_get lk_X6_36 im_X6_get rfl sel_X6_get hX.1 rfl rfl (Nat.le_of_ble_eq_true rfl) rfl ?_
  refine e_irem dX6_pay_39 (hs) ?_
  refine e_callV (ci := 6) (st := []) (st1 := []) (As := [.int (nI t), .int (nI 3), .int (((nI 1000) + (kg kf t 3)) - ((nI 1000) + (kg kf t 3)) / (kg kf t 2) * (kg kf t 2))]) (m_set hX (kg_lt (by omega) (by decide))) dX6_pay_40 (by decide) cm_X6_set lk_X6_59 im_X6_set rfl sel_X6_set hX.1 rfl rfl (Nat.le_of_ble_eq_true rfl) rfl ?_
  refine e_aload_n 1 dX6_pay_43 rfl ?_
  refine e_ic (nI 0) dX6_pay_44 (by decide) ?_
  refine e_callV (ci := 6) (st := []) (st1 := []) (As := [.int (nI 0)]) (m_body hX (by omega)) dX6_pay_45 (by decide) cm_X6_body lk_X6_63 im_X6_body rfl sel_X6_body hX.1 rfl rfl (Nat.le_of_ble_eq_true rfl) rfl ?_
  refine e_ic (nI 0) dX6_pay_48 (by decide) ?_
  exact e_retI dX6_pay_49 rfl rfl rfl
set_option maxRecDepth 100000 in
set_option maxHeartbeats 4000000 in
theorem m_pays (hX : MW m X) {t : Nat} (h : t < 200) (hs : ¬ kg kf t 2 = 0) : Ev G 2 uX6_pays [.ref X.1, .int (nI t)] (MM m X (kf, vf, lf)) none (MM m X ((paysF kf vf t).1, (paysF kf vf t).2, lf)) := by
  refine Ev.of (by decide +kernel) (Nat.le_of_ble_eq_true rfl) ?_
  refine e_lvs (lv' := [(0, .ref X.1), (1, .int (nI t))]) rfl ?_
  refine e_aload_n 0 dX6_pays_0 rfl ?_
  refine e_iload_n 1 dX6_pays_1 rfl ?_
  refine e_ic (nI 0) dX6_pays_2 (by decide) ?_
  refine e_callV (ci := 6) (st := []) (st1 := [.int (kg kf t 0)]) (As := [.int (nI t), .int (nI 0)]) (m_get hX (kg_lt (by omega) (by omega))) dX6_pays_3 (by decide) cm_X6_get lk_X6_36 im_X6_get rfl sel_X6_get hX.1 rfl rfl (Nat.le_of_ble_eq_true rfl) rfl ?_
  refine e_istore_n (lv' := [(2, .int (kg kf t 0)), (0, .ref X.1), (1, .int (nI t))]) dX6_pays_6 (by decide) rfl ?_
  refine e_aload_n 1 dX6_pays_7 rfl ?_
  refine e_iload_n 2 dX6_pays_8 rfl ?_
  refine e_callV (ci := 6) (st := []) (st1 := [.int (bI (isDue kf t))]) (As := [.int (nI t)]) (m_isDue hX (by omega)) dX6_pays_9 (by decide) cm_X6_isDue lk_X6_43 im_X6_isDue rfl sel_X6_isDue hX.1 rfl rfl (Nat.le_of_ble_eq_true rfl) rfl ?_
  refine e_istore_n (lv' := [(3, .int (bI (isDue kf t))), (2, .int (kg kf t 0)), (0, .ref X.1), (1, .int (nI t))]) dX6_pays_12 (by decide) rfl ?_
  refine e_aload_n 2 dX6_pays_13 rfl ?_
  refine e_iload_n 0 dX6_pays_14 rfl ?_
  refine e_if_eqB 23 dX6_pays_15 (by decide) (fun h1 => ?_) (fun h1 => ?_)
  · skip
    refine e_bipush (v := nI 6) dX6_pays_23 (by decide) ?_
    refine e_callV (ci := 6) (st := []) (st1 := []) (As := [.int (nI 6)]) (m_body hX (by omega)) dX6_pays_25 (by decide) cm_X6_body lk_X6_63 im_X6_body rfl sel_X6_body hX.1 rfl rfl (Nat.le_of_ble_eq_true rfl) rfl ?_
    refine e_iload_n 0 dX6_pays_28 rfl ?_
    refine e_if_eqB 46 dX6_pays_29 (by decide) (fun _ => ?_) (fun h => absurd h (by rw [h1]; decide))
    refine e_ic (nI 0) dX6_pays_46 (by decide) ?_
    refine e_istore (lv' := [(4, .int (nI 0)), (3, .int (bI (isDue kf t))), (2, .int (kg kf t 0)), (0, .ref X.1), (1, .int (nI t))]) dX6_pays_47 (by decide) rfl ?_
    refine e_iload 0 dX6_pays_49 rfl ?_
    refine e_if_eq 70 dX6_pays_51 (by decide) (fun _ => ?_) (fun h => absurd h (by decide))
    refine e_iload 0 dX6_pays_70 rfl ?_
    refine e_if_eq 81 dX6_pays_72 (by decide) (fun _ => ?_) (fun h => absurd h (by decide))
    refine e_iload_n 2 dX6_pays_81 rfl ?_
    refine e_ic (nI 2) dX6_pays_82 (by decide) ?_
    refine e_iv (w := 2) rfl ?_
    refine e_icmp_ne 91 dX6_pays_83 (by decide) (fun h2 => ?_) (fun h2 => ?_)
    · skip
      refine e_iload_n 2 dX6_pays_91 rfl ?_
      refine e_ic (nI 4) dX6_pays_92 (by decide) ?_
      refine e_iv (w := 4) rfl ?_
      refine e_icmp_ne 101 dX6_pays_93 (by decide) (fun h3 => ?_) (fun h3 => ?_)
      · skip
        refine e_aload_n 3 dX6_pays_101 rfl ?_
        refine e_iload_n 4 dX6_pays_102 rfl ?_
        refine e_callV (ci := 6) (st := []) (st1 := [.int (nI 0)]) (As := [.int (nI t)]) (m_pay hX (by omega) (by simpa [kg_bd, kg_ne, kg_payK] using hs)) dX6_pays_103 (by decide) cm_X6_pay lk_X6_76 im_X6_pay rfl sel_X6_pay hX.1 rfl rfl (Nat.le_of_ble_eq_true rfl) rfl ?_
        refine e_istore (lv' := [(5, .int (nI 0)), (4, .int (nI 0)), (3, .int (bI (isDue kf t))), (2, .int (kg kf t 0)), (0, .ref X.1), (1, .int (nI t))]) dX6_pays_106 (by decide) rfl ?_
        refine e_iload_n 3 dX6_pays_108 rfl ?_
        refine e_ic (nI 4) dX6_pays_109 (by decide) ?_
        refine e_iv (w := 4) rfl ?_
        refine e_icmp_ne 120 dX6_pays_110 (by decide) (fun _ => ?_) (fun h => absurd h (h3))
        exact e_retV dX6_pays_120 rfl rfl (by first | (simp [paysF, *]; done) | (exfalso; simp_all; done))
      · skip
        refine e_aload_n 3 dX6_pays_96 rfl ?_
        refine e_ic (nI 2) dX6_pays_97 (by decide) ?_
        refine e_callV (ci := 6) (st := []) (st1 := []) (As := [.int (nI 2)]) (m_body hX (by omega)) dX6_pays_98 (by decide) cm_X6_body lk_X6_63 im_X6_body rfl sel_X6_body hX.1 rfl rfl (Nat.le_of_ble_eq_true rfl) rfl ?_
        refine e_aload_n 3 dX6_pays_101 rfl ?_
        refine e_iload_n 4 dX6_pays_102 rfl ?_
        refine e_callV (ci := 6) (st := []) (st1 := [.int (nI 0)]) (As := [.int (nI t)]) (m_pay hX (by omega) (by simpa [kg_bd, kg_ne, kg_payK] using hs)) dX6_pays_103 (by decide) cm_X6_pay lk_X6_76 im_X6_pay rfl sel_X6_pay hX.1 rfl rfl (Nat.le_of_ble_eq_true rfl) rfl ?_
        refine e_istore (lv' := [(5, .int (nI 0)), (4, .int (nI 0)), (3, .int (bI (isDue kf t))), (2, .int (kg kf t 0)), (0, .ref X.1), (1, .int (nI t))]) dX6_pays_106 (by decide) rfl ?_
        refine e_iload_n 3 dX6_pays_108 rfl ?_
        refine e_ic (nI 4) dX6_pays_109 (by decide) ?_
        refine e_iv (w := 4) rfl ?_
        refine e_icmp_ne 120 dX6_pays_110 (by decide) (fun h => absurd h (not_not_intro h3)) (fun _ => ?_)
        refine e_aload_n 4 dX6_pays_113 rfl ?_
        refine e_iload_n 5 dX6_pays_114 rfl ?_
        refine e_callV (ci := 6) (st := []) (st1 := [.int (nI 0)]) (As := [.int (nI t)]) (m_pay hX (by omega) (by simpa [kg_bd, kg_ne, kg_payK] using hs)) dX6_pays_115 (by decide) cm_X6_pay lk_X6_76 im_X6_pay rfl sel_X6_pay hX.1 rfl rfl (Nat.le_of_ble_eq_true rfl) rfl ?_
        refine e_istore (lv' := [(5, .int (nI 0)), (4, .int (nI 0)), (3, .int (bI (isDue kf t))), (2, .int (kg kf t 0)), (0, .ref X.1), (1, .int (nI t))]) dX6_pays_118 (by decide) rfl ?_
        exact e_retV dX6_pays_120 rfl rfl (by first | (simp [paysF, *]; done) | (exfalso; simp_all; done))
    · skip
      refine e_aload_n 3 dX6_pays_86 rfl ?_
      refine e_ic (nI 1) dX6_pays_87 (by decide) ?_
      refine e_callV (ci := 6) (st := []) (st1 := []) (As := [.int (nI 1)]) (m_body hX (by omega)) dX6_pays_88 (by decide) cm_X6_body lk_X6_63 im_X6_body rfl sel_X6_body hX.1 rfl rfl (Nat.le_of_ble_eq_true rfl) rfl ?_
      refine e_iload_n 2 dX6_pays_91 rfl ?_
      refine e_ic (nI 4) dX6_pays_92 (by decide) ?_
      refine e_iv (w := 4) rfl ?_
      refine e_icmp_ne 101 dX6_pays_93 (by decide) (fun _ => ?_) (fun h => absurd h (by rw [h2]; decide))
      refine e_aload_n 3 dX6_pays_101 rfl ?_
      refine e_iload_n 4 dX6_pays_102 rfl ?_
      refine e_callV (ci := 6) (st := []) (st1 := [.int (nI 0)]) (As := [.int (nI t)]) (m_pay hX (by omega) (by simpa [kg_bd, kg_ne, kg_payK] using hs)) dX6_pays_103 (by decide) cm_X6_pay lk_X6_76 im_X6_pay rfl sel_X6_pay hX.1 rfl rfl (Nat.le_of_ble_eq_true rfl) rfl ?_
      refine e_istore (lv' := [(5, .int (nI 0)), (4, .int (nI 0)), (3, .int (bI (isDue kf t))), (2, .int (kg kf t 0)), (0, .ref X.1), (1, .int (nI t))]) dX6_pays_106 (by decide) rfl ?_
      refine e_iload_n 3 dX6_pays_108 rfl ?_
      refine e_ic (nI 4) dX6_pays_109 (by decide) ?_
      refine e_iv (w := 4) rfl ?_
      refine e_icmp_ne 120 dX6_pays_110 (by decide) (fun _ => ?_) (fun h => absurd h (by rw [h2]; decide))
      exact e_retV dX6_pays_120 rfl rfl (by first | (simp [paysF, *]; done) | (exfalso; simp_all; done))
  · skip
    refine e_bipush (v := nI 7) dX6_pays_18 (by decide) ?_
    refine e_goto 25 dX6_pays_20 (by decide) ?_
    refine e_callV (ci := 6) (st := []) (st1 := []) (As := [.int (nI 7)]) (m_body hX (by omega)) dX6_pays_25 (by decide) cm_X6_body lk_X6_63 im_X6_body rfl sel_X6_body hX.1 rfl rfl (Nat.le_of_ble_eq_true rfl) rfl ?_
    refine e_iload_n 0 dX6_pays_28 rfl ?_
    refine e_if_eqB 46 dX6_pays_29 (by decide) (fun h => absurd h (by rw [h1]; decide)) (fun _ => ?_)
    refine e_aload_n 2 dX6_pays_32 rfl ?_
    refine e_iload_n 3 dX6_pays_33 rfl ?_
    refine e_bipush (v := nI 13) dX6_pays_34 (by decide) ?_
    refine e_callV (ci := 6) (st := []) (st1 := [.int (kg (bd kf 7) t 13)]) (As := [.int (nI t), .int (nI 13)]) (m_get hX (kg_lt (by omega) (by omega))) dX6_pays_36 (by decide) cm_X6_get lk_X6_36 im_X6_get rfl sel_X6_get hX.1 rfl rfl (Nat.le_of_ble_eq_true rfl) rfl ?_
    refine e_if_le 46 dX6_pays_39 (by decide) (fun h4 => ?_) (fun h4 => ?_)
    · skip
      have h4' := Int32.not_lt.mpr h4
      refine e_ic (nI 0) dX6_pays_46 (by decide) ?_
      refine e_istore (lv' := [(4, .int (nI 0)), (3, .int (bI (isDue kf t))), (2, .int (kg kf t 0)), (0, .ref X.1), (1, .int (nI t))]) dX6_pays_47 (by decide) rfl ?_
      refine e_iload 0 dX6_pays_49 rfl ?_
      refine e_if_eq 70 dX6_pays_51 (by decide) (fun _ => ?_) (fun h => absurd h (by decide))
      refine e_iload 0 dX6_pays_70 rfl ?_
      refine e_if_eq 81 dX6_pays_72 (by decide) (fun _ => ?_) (fun h => absurd h (by decide))
      refine e_iload_n 2 dX6_pays_81 rfl ?_
      refine e_ic (nI 2) dX6_pays_82 (by decide) ?_
      refine e_iv (w := 2) rfl ?_
      refine e_icmp_ne 91 dX6_pays_83 (by decide) (fun h5 => ?_) (fun h5 => ?_)
      · skip
        refine e_iload_n 2 dX6_pays_91 rfl ?_
        refine e_ic (nI 4) dX6_pays_92 (by decide) ?_
        refine e_iv (w := 4) rfl ?_
        refine e_icmp_ne 101 dX6_pays_93 (by decide) (fun h6 => ?_) (fun h6 => ?_)
        · skip
          refine e_aload_n 3 dX6_pays_101 rfl ?_
          refine e_iload_n 4 dX6_pays_102 rfl ?_
          refine e_callV (ci := 6) (st := []) (st1 := [.int (nI 0)]) (As := [.int (nI t)]) (m_pay hX (by omega) (by simpa [kg_bd, kg_ne, kg_payK] using hs)) dX6_pays_103 (by decide) cm_X6_pay lk_X6_76 im_X6_pay rfl sel_X6_pay hX.1 rfl rfl (Nat.le_of_ble_eq_true rfl) rfl ?_
          refine e_istore (lv' := [(5, .int (nI 0)), (4, .int (nI 0)), (3, .int (bI (isDue kf t))), (2, .int (kg kf t 0)), (0, .ref X.1), (1, .int (nI t))]) dX6_pays_106 (by decide) rfl ?_
          refine e_iload_n 3 dX6_pays_108 rfl ?_
          refine e_ic (nI 4) dX6_pays_109 (by decide) ?_
          refine e_iv (w := 4) rfl ?_
          refine e_icmp_ne 120 dX6_pays_110 (by decide) (fun _ => ?_) (fun h => absurd h (h6))
          exact e_retV dX6_pays_120 rfl rfl (by first | (simp [paysF, *]; done) | (exfalso; simp_all; done))
        · skip
          refine e_aload_n 3 dX6_pays_96 rfl ?_
          refine e_ic (nI 2) dX6_pays_97 (by decide) ?_
          refine e_callV (ci := 6) (st := []) (st1 := []) (As := [.int (nI 2)]) (m_body hX (by omega)) dX6_pays_98 (by decide) cm_X6_body lk_X6_63 im_X6_body rfl sel_X6_body hX.1 rfl rfl (Nat.le_of_ble_eq_true rfl) rfl ?_
          refine e_aload_n 3 dX6_pays_101 rfl ?_
          refine e_iload_n 4 dX6_pays_102 rfl ?_
          refine e_callV (ci := 6) (st := []) (st1 := [.int (nI 0)]) (As := [.int (nI t)]) (m_pay hX (by omega) (by simpa [kg_bd, kg_ne, kg_payK] using hs)) dX6_pays_103 (by decide) cm_X6_pay lk_X6_76 im_X6_pay rfl sel_X6_pay hX.1 rfl rfl (Nat.le_of_ble_eq_true rfl) rfl ?_
          refine e_istore (lv' := [(5, .int (nI 0)), (4, .int (nI 0)), (3, .int (bI (isDue kf t))), (2, .int (kg kf t 0)), (0, .ref X.1), (1, .int (nI t))]) dX6_pays_106 (by decide) rfl ?_
          refine e_iload_n 3 dX6_pays_108 rfl ?_
          refine e_ic (nI 4) dX6_pays_109 (by decide) ?_
          refine e_iv (w := 4) rfl ?_
          refine e_icmp_ne 120 dX6_pays_110 (by decide) (fun h => absurd h (not_not_intro h6)) (fun _ => ?_)
          refine e_aload_n 4 dX6_pays_113 rfl ?_
          refine e_iload_n 5 dX6_pays_114 rfl ?_
          refine e_callV (ci := 6) (st := []) (st1 := [.int (nI 0)]) (As := [.int (nI t)]) (m_pay hX (by omega) (by simpa [kg_bd, kg_ne, kg_payK] using hs)) dX6_pays_115 (by decide) cm_X6_pay lk_X6_76 im_X6_pay rfl sel_X6_pay hX.1 rfl rfl (Nat.le_of_ble_eq_true rfl) rfl ?_
          refine e_istore (lv' := [(5, .int (nI 0)), (4, .int (nI 0)), (3, .int (bI (isDue kf t))), (2, .int (kg kf t 0)), (0, .ref X.1), (1, .int (nI t))]) dX6_pays_118 (by decide) rfl ?_
          exact e_retV dX6_pays_120 rfl rfl (by first | (simp [paysF, *]; done) | (exfalso; simp_all; done))
      · skip
        refine e_aload_n 3 dX6_pays_86 rfl ?_
        refine e_ic (nI 1) dX6_pays_87 (by decide) ?_
        refine e_callV (ci := 6) (st := []) (st1 := []) (As := [.int (nI 1)]) (m_body hX (by omega)) dX6_pays_88 (by decide) cm_X6_body lk_X6_63 im_X6_body rfl sel_X6_body hX.1 rfl rfl (Nat.le_of_ble_eq_true rfl) rfl ?_
        refine e_iload_n 2 dX6_pays_91 rfl ?_
        refine e_ic (nI 4) dX6_pays_92 (by decide) ?_
        refine e_iv (w := 4) rfl ?_
        refine e_icmp_ne 101 dX6_pays_93 (by decide) (fun _ => ?_) (fun h => absurd h (by rw [h5]; decide))
        refine e_aload_n 3 dX6_pays_101 rfl ?_
        refine e_iload_n 4 dX6_pays_102 rfl ?_
        refine e_callV (ci := 6) (st := []) (st1 := [.int (nI 0)]) (As := [.int (nI t)]) (m_pay hX (by omega) (by simpa [kg_bd, kg_ne, kg_payK] using hs)) dX6_pays_103 (by decide) cm_X6_pay lk_X6_76 im_X6_pay rfl sel_X6_pay hX.1 rfl rfl (Nat.le_of_ble_eq_true rfl) rfl ?_
        refine e_istore (lv' := [(5, .int (nI 0)), (4, .int (nI 0)), (3, .int (bI (isDue kf t))), (2, .int (kg kf t 0)), (0, .ref X.1), (1, .int (nI t))]) dX6_pays_106 (by decide) rfl ?_
        refine e_iload_n 3 dX6_pays_108 rfl ?_
        refine e_ic (nI 4) dX6_pays_109 (by decide) ?_
        refine e_iv (w := 4) rfl ?_
        refine e_icmp_ne 120 dX6_pays_110 (by decide) (fun _ => ?_) (fun h => absurd h (by rw [h5]; decide))
        exact e_retV dX6_pays_120 rfl rfl (by first | (simp [paysF, *]; done) | (exfalso; simp_all; done))
    · skip
      have h4' := Int32.not_le.mp h4
      refine e_ic (nI 1) dX6_pays_42 (by decide) ?_
      refine e_goto 47 dX6_pays_43 (by decide) ?_
      refine e_istore (lv' := [(4, .int (nI 1)), (3, .int (bI (isDue kf t))), (2, .int (kg kf t 0)), (0, .ref X.1), (1, .int (nI t))]) dX6_pays_47 (by decide) rfl ?_
      refine e_iload 0 dX6_pays_49 rfl ?_
      refine e_if_eq 70 dX6_pays_51 (by decide) (fun h => absurd h (by decide)) (fun _ => ?_)
      refine e_aload_n 3 dX6_pays_54 rfl ?_
      refine e_iload_n 4 dX6_pays_55 rfl ?_
      refine e_bipush (v := nI 13) dX6_pays_56 (by decide) ?_
      refine e_aload_n 3 dX6_pays_58 rfl ?_
      refine e_iload_n 4 dX6_pays_59 rfl ?_
      refine e_bipush (v := nI 13) dX6_pays_60 (by decide) ?_
      refine e_callV (ci := 6) (st := [.int (nI 13), .int (nI t), .ref X.1]) (st1 := [.int (kg (bd kf 7) t 13), .int (nI 13), .int (nI t), .ref X.1]) (As := [.int (nI t), .int (nI 13)]) (m_get hX (kg_lt (by omega) (by omega))) dX6_pays_62 (by decide) cm_X6_get lk_X6_36 im_X6_get rfl sel_X6_get hX.1 rfl rfl (Nat.le_of_ble_eq_true rfl) rfl ?_
      refine e_ic (nI 1) dX6_pays_65 (by decide) ?_
      refine e_isub dX6_pays_66 ?_
      refine e_callV (ci := 6) (st := []) (st1 := []) (As := [.int (nI t), .int (nI 13), .int ((kg (bd kf 7) t 13) - (nI 1))]) (m_set hX (kg_lt (by omega) (by decide))) dX6_pays_67 (by decide) cm_X6_set lk_X6_59 im_X6_set rfl sel_X6_set hX.1 rfl rfl (Nat.le_of_ble_eq_true rfl) rfl ?_
      refine e_iload 0 dX6_pays_70 rfl ?_
      refine e_if_eq 81 dX6_pays_72 (by decide) (fun h => absurd h (by decide)) (fun _ => ?_)
      refine e_iload_n 2 dX6_pays_75 rfl ?_
      refine e_ic (nI 1) dX6_pays_76 (by decide) ?_
      refine e_iv (w := 1) rfl ?_
      refine e_icmp_ne 81 dX6_pays_77 (by decide) (fun h7 => ?_) (fun h7 => ?_)
      · skip
        refine e_iload_n 2 dX6_pays_81 rfl ?_
        refine e_ic (nI 2) dX6_pays_82 (by decide) ?_
        refine e_iv (w := 2) rfl ?_
        refine e_icmp_ne 91 dX6_pays_83 (by decide) (fun h8 => ?_) (fun h8 => ?_)
        · skip
          refine e_iload_n 2 dX6_pays_91 rfl ?_
          refine e_ic (nI 4) dX6_pays_92 (by decide) ?_
          refine e_iv (w := 4) rfl ?_
          refine e_icmp_ne 101 dX6_pays_93 (by decide) (fun h9 => ?_) (fun h9 => ?_)
          · skip
            refine e_aload_n 3 dX6_pays_101 rfl ?_
            refine e_iload_n 4 dX6_pays_102 rfl ?_
            refine e_callV (ci := 6) (st := []) (st1 := [.int (nI 0)]) (As := [.int (nI t)]) (m_pay hX (by omega) (by simpa [kg_bd, kg_ne, kg_payK] using hs)) dX6_pays_103 (by decide) cm_X6_pay lk_X6_76 im_X6_pay rfl sel_X6_pay hX.1 rfl rfl (Nat.le_of_ble_eq_true rfl) rfl ?_
            refine e_istore (lv' := [(5, .int (nI 0)), (4, .int (nI 1)), (3, .int (bI (isDue kf t))), (2, .int (kg kf t 0)), (0, .ref X.1), (1, .int (nI t))]) dX6_pays_106 (by decide) rfl ?_
            refine e_iload_n 3 dX6_pays_108 rfl ?_
            refine e_ic (nI 4) dX6_pays_109 (by decide) ?_
            refine e_iv (w := 4) rfl ?_
            refine e_icmp_ne 120 dX6_pays_110 (by decide) (fun _ => ?_) (fun h => absurd h (h9))
            exact e_retV dX6_pays_120 rfl rfl (by first | (simp [paysF, *]; done) | (exfalso; simp_all; done))
          · skip
            refine e_aload_n 3 dX6_pays_96 rfl ?_
            refine e_ic (nI 2) dX6_pays_97 (by decide) ?_
            refine e_callV (ci := 6) (st := []) (st1 := []) (As := [.int (nI 2)]) (m_body hX (by omega)) dX6_pays_98 (by decide) cm_X6_body lk_X6_63 im_X6_body rfl sel_X6_body hX.1 rfl rfl (Nat.le_of_ble_eq_true rfl) rfl ?_
            refine e_aload_n 3 dX6_pays_101 rfl ?_
            refine e_iload_n 4 dX6_pays_102 rfl ?_
            refine e_callV (ci := 6) (st := []) (st1 := [.int (nI 0)]) (As := [.int (nI t)]) (m_pay hX (by omega) (by simpa [kg_bd, kg_ne, kg_payK] using hs)) dX6_pays_103 (by decide) cm_X6_pay lk_X6_76 im_X6_pay rfl sel_X6_pay hX.1 rfl rfl (Nat.le_of_ble_eq_true rfl) rfl ?_
            refine e_istore (lv' := [(5, .int (nI 0)), (4, .int (nI 1)), (3, .int (bI (isDue kf t))), (2, .int (kg kf t 0)), (0, .ref X.1), (1, .int (nI t))]) dX6_pays_106 (by decide) rfl ?_
            refine e_iload_n 3 dX6_pays_108 rfl ?_
            refine e_ic (nI 4) dX6_pays_109 (by decide) ?_
            refine e_iv (w := 4) rfl ?_
            refine e_icmp_ne 120 dX6_pays_110 (by decide) (fun h => absurd h (not_not_intro h9)) (fun _ => ?_)
            refine e_aload_n 4 dX6_pays_113 rfl ?_
            refine e_iload_n 5 dX6_pays_114 rfl ?_
            refine e_callV (ci := 6) (st := []) (st1 := [.int (nI 0)]) (As := [.int (nI t)]) (m_pay hX (by omega) (by simpa [kg_bd, kg_ne, kg_payK] using hs)) dX6_pays_115 (by decide) cm_X6_pay lk_X6_76 im_X6_pay rfl sel_X6_pay hX.1 rfl rfl (Nat.le_of_ble_eq_true rfl) rfl ?_
            refine e_istore (lv' := [(5, .int (nI 0)), (4, .int (nI 1)), (3, .int (bI (isDue kf t))), (2, .int (kg kf t 0)), (0, .ref X.1), (1, .int (nI t))]) dX6_pays_118 (by decide) rfl ?_
            exact e_retV dX6_pays_120 rfl rfl (by first | (simp [paysF, *]; done) | (exfalso; simp_all; done))
        · skip
          refine e_aload_n 3 dX6_pays_86 rfl ?_
          refine e_ic (nI 1) dX6_pays_87 (by decide) ?_
          refine e_callV (ci := 6) (st := []) (st1 := []) (As := [.int (nI 1)]) (m_body hX (by omega)) dX6_pays_88 (by decide) cm_X6_body lk_X6_63 im_X6_body rfl sel_X6_body hX.1 rfl rfl (Nat.le_of_ble_eq_true rfl) rfl ?_
          refine e_iload_n 2 dX6_pays_91 rfl ?_
          refine e_ic (nI 4) dX6_pays_92 (by decide) ?_
          refine e_iv (w := 4) rfl ?_
          refine e_icmp_ne 101 dX6_pays_93 (by decide) (fun _ => ?_) (fun h => absurd h (by rw [h8]; decide))
          refine e_aload_n 3 dX6_pays_101 rfl ?_
          refine e_iload_n 4 dX6_pays_102 rfl ?_
          refine e_callV (ci := 6) (st := []) (st1 := [.int (nI 0)]) (As := [.int (nI t)]) (m_pay hX (by omega) (by simpa [kg_bd, kg_ne, kg_payK] using hs)) dX6_pays_103 (by decide) cm_X6_pay lk_X6_76 im_X6_pay rfl sel_X6_pay hX.1 rfl rfl (Nat.le_of_ble_eq_true rfl) rfl ?_
          refine e_istore (lv' := [(5, .int (nI 0)), (4, .int (nI 1)), (3, .int (bI (isDue kf t))), (2, .int (kg kf t 0)), (0, .ref X.1), (1, .int (nI t))]) dX6_pays_106 (by decide) rfl ?_
          refine e_iload_n 3 dX6_pays_108 rfl ?_
          refine e_ic (nI 4) dX6_pays_109 (by decide) ?_
          refine e_iv (w := 4) rfl ?_
          refine e_icmp_ne 120 dX6_pays_110 (by decide) (fun _ => ?_) (fun h => absurd h (by rw [h8]; decide))
          exact e_retV dX6_pays_120 rfl rfl (by first | (simp [paysF, *]; done) | (exfalso; simp_all; done))
      · skip
        exact e_retV dX6_pays_80 rfl rfl (by first | (simp [paysF, *]; done) | (exfalso; simp_all; done))
end Model2
