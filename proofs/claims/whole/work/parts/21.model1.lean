/-! the reference's small methods -/
section Model1
variable {G : GG} {m : Mem} {X : XX} {kf : KF} {vf : VF} {lf : Nat → Int32}
set_option maxRecDepth 100000 in
set_option maxHeartbeats 4000000 in
theorem m_isIn (x lo hi : Int64) (m : Mem) : Ev G 0 uX6_isIn [.long x, .long lo, .long hi] m (some (.int (bI (inL x lo hi)))) m := by
  refine Ev.of (by decide +kernel) (Nat.le_of_ble_eq_true rfl) ?_
  refine e_lvs (lv' := [(0, .long x), (2, .long lo), (4, .long hi)]) rfl ?_
  refine e_lload_n 0 dX6_isIn_0 rfl ?_
  refine e_lload_n 1 dX6_isIn_1 rfl ?_
  refine e_lcmp dX6_isIn_2 ?_
  refine e_lc_lt 17 dX6_isIn_3 (by decide) (fun h1 => ?_) (fun h1 => ?_)
  · skip
    have h1' := Int64.not_le.mpr h1
    refine e_ic (nI 0) dX6_isIn_17 (by decide) ?_
    exact e_retI dX6_isIn_18 rfl rfl (bI_f (decide_eq_false (fun h => absurd h.1 (Int64.not_le.mpr h1)))) rfl
  · skip
    have h1' := Int64.not_lt.mp h1
    refine e_lload_n 0 dX6_isIn_6 rfl ?_
    refine e_lload 2 dX6_isIn_7 rfl ?_
    refine e_lcmp dX6_isIn_9 ?_
    refine e_lc_gt 17 dX6_isIn_10 (by decide) (fun h2 => ?_) (fun h2 => ?_)
    · skip
      have h2' := Int64.not_le.mpr h2
      refine e_ic (nI 0) dX6_isIn_17 (by decide) ?_
      exact e_retI dX6_isIn_18 rfl rfl (bI_f (decide_eq_false (fun h => absurd h.2 (Int64.not_le.mpr h2)))) rfl
    · skip
      have h2' := Int64.not_lt.mp h2
      refine e_ic (nI 1) dX6_isIn_13 (by decide) ?_
      refine e_goto 18 dX6_isIn_14 (by decide) ?_
      exact e_retI dX6_isIn_18 rfl rfl (bI_t (decide_eq_true ⟨Int64.not_lt.mp h1, Int64.not_lt.mp h2⟩)) rfl
set_option maxRecDepth 100000 in
set_option maxHeartbeats 4000000 in
theorem m_get (hX : MW m X) {t w : Nat} (h : 400 + 20 * t + w < 142000) : Ev G 0 uX6_get [.ref X.1, .int (nI t), .int (nI w)] (MM m X (kf, vf, lf)) (some (.int (kg kf t w))) (MM m X (kf, vf, lf)) := by
  refine Ev.of (by decide +kernel) (Nat.le_of_ble_eq_true rfl) ?_
  refine e_lvs (lv' := [(0, .ref X.1), (1, .int (nI t)), (2, .int (nI w))]) rfl ?_
  refine e_aload_n 0 dX6_get_0 rfl ?_
  refine e_mk hX dX6_get_1 fl_X6_8 ?_
  refine e_sipush (v := nI 400) dX6_get_4 (by decide) ?_
  refine e_bipush (v := nI 20) dX6_get_7 (by decide) ?_
  refine e_iload_n 1 dX6_get_9 rfl ?_
  refine e_imulN dX6_get_10 ?_
  refine e_iaddN dX6_get_11 ?_
  refine e_iload_n 2 dX6_get_12 rfl ?_
  refine e_iaddN dX6_get_13 ?_
  refine e_kld hX dX6_get_14 (by omega) ?_
  exact e_retI dX6_get_15 rfl rfl rfl
set_option maxRecDepth 100000 in
set_option maxHeartbeats 4000000 in
theorem m_set (hX : MW m X) {t w : Nat} {x : Int32} (h : 400 + 20 * t + w < 142000) : Ev G 0 uX6_set [.ref X.1, .int (nI t), .int (nI w), .int x] (MM m X (kf, vf, lf)) none (MM m X (ks kf t w x, vf, lf)) := by
  refine Ev.of (by decide +kernel) (Nat.le_of_ble_eq_true rfl) ?_
  refine e_lvs (lv' := [(0, .ref X.1), (1, .int (nI t)), (2, .int (nI w)), (3, .int x)]) rfl ?_
  refine e_aload_n 0 dX6_set_0 rfl ?_
  refine e_mk hX dX6_set_1 fl_X6_8 ?_
  refine e_sipush (v := nI 400) dX6_set_4 (by decide) ?_
  refine e_bipush (v := nI 20) dX6_set_7 (by decide) ?_
  refine e_iload_n 1 dX6_set_9 rfl ?_
  refine e_imulN dX6_set_10 ?_
  refine e_iaddN dX6_set_11 ?_
  refine e_iload_n 2 dX6_set_12 rfl ?_
  refine e_iaddN dX6_set_13 ?_
  refine e_iload_n 3 dX6_set_14 rfl ?_
  refine e_kst hX dX6_set_15 (by omega) ?_
  exact e_retV dX6_set_16 rfl rfl
set_option maxRecDepth 100000 in
set_option maxHeartbeats 4000000 in
theorem m_body (hX : MW m X) {b : Nat} (h : b < 12) : Ev G 0 uX6_body [.ref X.1, .int (nI b)] (MM m X (kf, vf, lf)) none (MM m X (bd kf b, vf, lf)) := by
  refine Ev.of (by decide +kernel) (Nat.le_of_ble_eq_true rfl) ?_
  refine e_lvs (lv' := [(0, .ref X.1), (1, .int (nI b))]) rfl ?_
  refine e_aload_n 0 dX6_body_0 rfl ?_
  refine e_mk hX dX6_body_1 fl_X6_8 ?_
  refine e_sipush (v := nI 220) dX6_body_4 (by decide) ?_
  refine e_iload_n 1 dX6_body_7 rfl ?_
  refine e_iaddN dX6_body_8 ?_
  refine e_dup2 dX6_body_9 rfl rfl ?_
  refine e_kld hX dX6_body_10 (by omega) ?_
  refine e_ic (nI 1) dX6_body_11 (by decide) ?_
  refine e_iadd dX6_body_12 ?_
  refine e_kst hX dX6_body_13 (by omega) ?_
  exact e_retV dX6_body_14 rfl rfl
set_option maxRecDepth 100000 in
set_option maxHeartbeats 4000000 in
theorem m_isDue (hX : MW m X) {t : Nat} (h : t < 200) : Ev G 1 uX6_isDue [.ref X.1, .int (nI t)] (MM m X (kf, vf, lf)) (some (.int (bI (isDue kf t)))) (MM m X (kf, vf, lf)) := by
  refine Ev.of (by decide +kernel) (Nat.le_of_ble_eq_true rfl) ?_
  refine e_lvs (lv' := [(0, .ref X.1), (1, .int (nI t))]) rfl ?_
  refine e_aload_n 0 dX6_isDue_0 rfl ?_
  refine e_iload_n 1 dX6_isDue_1 rfl ?_
  refine e_ic (nI 0) dX6_isDue_2 (by decide) ?_
  refine e_callV (ci := 6) (st := []) (st1 := [.int (kg kf t 0)]) (As := [.int (nI t), .int (nI 0)]) (m_get hX (kg_lt (by omega) (by omega))) dX6_isDue_3 (by decide) cm_X6_get lk_X6_36 im_X6_get rfl sel_X6_get hX.1 rfl rfl (Nat.le_of_ble_eq_true rfl) rfl ?_
  refine e_ic (nI 1) dX6_isDue_6 (by decide) ?_
  refine e_iv (w := 1) rfl ?_
  refine e_icmp_eq 20 dX6_isDue_7 (by decide) (fun h1 => ?_) (fun h1 => ?_)
  · skip
    refine e_ic (nI 1) dX6_isDue_20 (by decide) ?_
    refine e_goto 25 dX6_isDue_21 (by decide) ?_
    exact e_retI dX6_isDue_25 rfl rfl (bI_t (by simp [isDue, h1])) rfl
  · skip
    refine e_aload_n 0 dX6_isDue_10 rfl ?_
    refine e_iload_n 1 dX6_isDue_11 rfl ?_
    refine e_ic (nI 0) dX6_isDue_12 (by decide) ?_
    refine e_callV (ci := 6) (st := []) (st1 := [.int (kg kf t 0)]) (As := [.int (nI t), .int (nI 0)]) (m_get hX (kg_lt (by omega) (by omega))) dX6_isDue_13 (by decide) cm_X6_get lk_X6_36 im_X6_get rfl sel_X6_get hX.1 rfl rfl (Nat.le_of_ble_eq_true rfl) rfl ?_
    refine e_ic (nI 2) dX6_isDue_16 (by decide) ?_
    refine e_iv (w := 2) rfl ?_
    refine e_icmp_ne 24 dX6_isDue_17 (by decide) (fun h2 => ?_) (fun h2 => ?_)
    · skip
      refine e_ic (nI 0) dX6_isDue_24 (by decide) ?_
      exact e_retI dX6_isDue_25 rfl rfl (bI_f (by simp [isDue, h1, h2])) rfl
    · skip
      refine e_ic (nI 1) dX6_isDue_20 (by decide) ?_
      refine e_goto 25 dX6_isDue_21 (by decide) ?_
      exact e_retI dX6_isDue_25 rfl rfl (bI_t (by simp [isDue, h2])) rfl
set_option maxRecDepth 100000 in
set_option maxHeartbeats 4000000 in
theorem m_classOf (hX : MW m X) {t : Nat} (h : t < 200) : Ev G 2 uX6_classOf [.ref X.1, .int (nI t)] (MM m X (kf, vf, lf)) (some (.int (cls kf t))) (MM m X (kf, vf, lf)) := by
  refine Ev.of (by decide +kernel) (Nat.le_of_ble_eq_true rfl) ?_
  refine e_lvs (lv' := [(0, .ref X.1), (1, .int (nI t))]) rfl ?_
  refine e_aload_n 0 dX6_classOf_0 rfl ?_
  refine e_iload_n 1 dX6_classOf_1 rfl ?_
  refine e_callV (ci := 6) (st := []) (st1 := [.int (bI (isDue kf t))]) (As := [.int (nI t)]) (m_isDue hX (by omega)) dX6_classOf_2 (by decide) cm_X6_isDue lk_X6_43 im_X6_isDue rfl sel_X6_isDue hX.1 rfl rfl (Nat.le_of_ble_eq_true rfl) rfl ?_
  refine e_if_eqB 22 dX6_classOf_5 (by decide) (fun h1 => ?_) (fun h1 => ?_)
  · skip
    refine e_ic (nI 1) dX6_classOf_22 (by decide) ?_
    exact e_retI dX6_classOf_23 rfl rfl (by simp [cls, c0, h1]; rfl) rfl
  · skip
    refine e_aload_n 0 dX6_classOf_8 rfl ?_
    refine e_iload_n 1 dX6_classOf_9 rfl ?_
    refine e_bipush (v := nI 13) dX6_classOf_10 (by decide) ?_
    refine e_callV (ci := 6) (st := []) (st1 := [.int (kg kf t 13)]) (As := [.int (nI t), .int (nI 13)]) (m_get hX (kg_lt (by omega) (by omega))) dX6_classOf_12 (by decide) cm_X6_get lk_X6_36 im_X6_get rfl sel_X6_get hX.1 rfl rfl (Nat.le_of_ble_eq_true rfl) rfl ?_
    refine e_if_le 22 dX6_classOf_15 (by decide) (fun h2 => ?_) (fun h2 => ?_)
    · skip
      have h2' := Int32.not_lt.mpr h2
      refine e_ic (nI 1) dX6_classOf_22 (by decide) ?_
      exact e_retI dX6_classOf_23 rfl rfl (by simp [cls, c0, h1, Int32.not_lt.mpr h2]; rfl) rfl
    · skip
      have h2' := Int32.not_le.mp h2
      refine e_ic (nI 0) dX6_classOf_18 (by decide) ?_
      refine e_goto 23 dX6_classOf_19 (by decide) ?_
      exact e_retI dX6_classOf_23 rfl rfl (by simp [cls, c0, h1, Int32.not_le.mp h2]; rfl) rfl
set_option maxRecDepth 100000 in
set_option maxHeartbeats 4000000 in
theorem m_keyOf (hX : MW m X) {t : Nat} (h : t < 200) : Ev G 3 uX6_keyOf [.ref X.1, .int (nI t)] (MM m X (kf, vf, lf)) (some (.long (key kf vf t))) (MM m X (kf, vf, lf)) := by
  refine Ev.of (by decide +kernel) (Nat.le_of_ble_eq_true rfl) ?_
  refine e_lvs (lv' := [(0, .ref X.1), (1, .int (nI t))]) rfl ?_
  refine e_aload_n 0 dX6_keyOf_0 rfl ?_
  refine e_iload_n 1 dX6_keyOf_1 rfl ?_
  refine e_callV (ci := 6) (st := []) (st1 := [.int (cls kf t)]) (As := [.int (nI t)]) (m_classOf hX (by omega)) dX6_keyOf_2 (by decide) cm_X6_classOf lk_X6_47 im_X6_classOf rfl sel_X6_classOf hX.1 rfl rfl (Nat.le_of_ble_eq_true rfl) rfl ?_
  refine e_if_ne 19 dX6_keyOf_5 (by decide) (fun h1 => ?_) (fun h1 => ?_)
  · skip
    refine e_aload_n 0 dX6_keyOf_19 rfl ?_
    refine e_mv hX dX6_keyOf_20 fl_X6_14 ?_
    refine e_iload_n 1 dX6_keyOf_23 rfl ?_
    refine e_vld hX dX6_keyOf_24 (by omega) ?_
    exact e_retL dX6_keyOf_25 rfl (by simp [key, cls_n.mp h1]) rfl
  · skip
    refine e_aload_n 0 dX6_keyOf_8 rfl ?_
    refine e_iload_n 1 dX6_keyOf_9 rfl ?_
    refine e_bipush (v := nI 12) dX6_keyOf_10 (by decide) ?_
    refine e_callV (ci := 6) (st := []) (st1 := [.int (kg kf t 12)]) (As := [.int (nI t), .int (nI 12)]) (m_get hX (kg_lt (by omega) (by omega))) dX6_keyOf_12 (by decide) cm_X6_get lk_X6_36 im_X6_get rfl sel_X6_get hX.1 rfl rfl (Nat.le_of_ble_eq_true rfl) rfl ?_
    refine e_i2l dX6_keyOf_15 ?_
    refine e_goto 25 dX6_keyOf_16 (by decide) ?_
    exact e_retL dX6_keyOf_25 rfl (by simp [key, cls_0.mp h1]) rfl
set_option maxRecDepth 100000 in
set_option maxHeartbeats 4000000 in
theorem m_isAhead (hX : MW m X) {t s : Nat} (ht : t < 200) (hs : s < 200) : Ev G 4 uX6_isAhead [.ref X.1, .int (nI t), .int (nI s)] (MM m X (kf, vf, lf)) (some (.int (bI (ahead kf vf t s)))) (MM m X (kf, vf, lf)) := by
  refine Ev.of (by decide +kernel) (Nat.le_of_ble_eq_true rfl) ?_
  refine e_lvs (lv' := [(0, .ref X.1), (1, .int (nI t)), (2, .int (nI s))]) rfl ?_
  refine e_aload_n 0 dX6_isAhead_0 rfl ?_
  refine e_iload_n 1 dX6_isAhead_1 rfl ?_
  refine e_callV (ci := 6) (st := []) (st1 := [.int (cls kf t)]) (As := [.int (nI t)]) (m_classOf hX (by omega)) dX6_isAhead_2 (by decide) cm_X6_classOf lk_X6_47 im_X6_classOf rfl sel_X6_classOf hX.1 rfl rfl (Nat.le_of_ble_eq_true rfl) rfl ?_
  refine e_aload_n 0 dX6_isAhead_5 rfl ?_
  refine e_iload_n 2 dX6_isAhead_6 rfl ?_
  refine e_callV (ci := 6) (st := [.int (cls kf t)]) (st1 := [.int (cls kf s), .int (cls kf t)]) (As := [.int (nI s)]) (m_classOf hX (by omega)) dX6_isAhead_7 (by decide) cm_X6_classOf lk_X6_47 im_X6_classOf rfl sel_X6_classOf hX.1 rfl rfl (Nat.le_of_ble_eq_true rfl) rfl ?_
  refine e_icmp_eq 32 dX6_isAhead_10 (by decide) (fun h1 => ?_) (fun h1 => ?_)
  · skip
    refine e_aload_n 0 dX6_isAhead_32 rfl ?_
    refine e_iload_n 1 dX6_isAhead_33 rfl ?_
    refine e_callV (ci := 6) (st := []) (st1 := [.long (key kf vf t)]) (As := [.int (nI t)]) (m_keyOf hX (by omega)) dX6_isAhead_34 (by decide) cm_X6_keyOf lk_X6_51 im_X6_keyOf rfl sel_X6_keyOf hX.1 rfl rfl (Nat.le_of_ble_eq_true rfl) rfl ?_
    refine e_aload_n 0 dX6_isAhead_37 rfl ?_
    refine e_iload_n 2 dX6_isAhead_38 rfl ?_
    refine e_callV (ci := 6) (st := [.long (key kf vf t)]) (st1 := [.long (key kf vf s), .long (key kf vf t)]) (As := [.int (nI s)]) (m_keyOf hX (by omega)) dX6_isAhead_39 (by decide) cm_X6_keyOf lk_X6_51 im_X6_keyOf rfl sel_X6_keyOf hX.1 rfl rfl (Nat.le_of_ble_eq_true rfl) rfl ?_
    refine e_lcmp dX6_isAhead_42 ?_
    refine e_lc_eq 68 dX6_isAhead_43 (by decide) (fun h2 => ?_) (fun h2 => ?_)
    · skip
      refine e_iload_n 1 dX6_isAhead_68 rfl ?_
      refine e_iload_n 2 dX6_isAhead_69 rfl ?_
      refine e_icmp_geN 77 dX6_isAhead_70 (by decide) (by omega) (by omega) (fun h3 => ?_) (fun h3 => ?_)
      · skip
        have h3' := Nat.not_lt.mpr h3
        refine e_ic (nI 0) dX6_isAhead_77 (by decide) ?_
        exact e_retI dX6_isAhead_78 rfl rfl (bI_f (by simp [ahead, cls_eq.mp h1, h2, h3])) rfl
      · skip
        have h3' := Nat.not_le.mpr h3
        refine e_ic (nI 1) dX6_isAhead_73 (by decide) ?_
        refine e_goto 78 dX6_isAhead_74 (by decide) ?_
        exact e_retI dX6_isAhead_78 rfl rfl (bI_t (by simp [ahead, cls_eq.mp h1, h2, h3])) rfl
    · skip
      refine e_aload_n 0 dX6_isAhead_46 rfl ?_
      refine e_iload_n 1 dX6_isAhead_47 rfl ?_
      refine e_callV (ci := 6) (st := []) (st1 := [.long (key kf vf t)]) (As := [.int (nI t)]) (m_keyOf hX (by omega)) dX6_isAhead_48 (by decide) cm_X6_keyOf lk_X6_51 im_X6_keyOf rfl sel_X6_keyOf hX.1 rfl rfl (Nat.le_of_ble_eq_true rfl) rfl ?_
      refine e_aload_n 0 dX6_isAhead_51 rfl ?_
      refine e_iload_n 2 dX6_isAhead_52 rfl ?_
      refine e_callV (ci := 6) (st := [.long (key kf vf t)]) (st1 := [.long (key kf vf s), .long (key kf vf t)]) (As := [.int (nI s)]) (m_keyOf hX (by omega)) dX6_isAhead_53 (by decide) cm_X6_keyOf lk_X6_51 im_X6_keyOf rfl sel_X6_keyOf hX.1 rfl rfl (Nat.le_of_ble_eq_true rfl) rfl ?_
      refine e_lcmp dX6_isAhead_56 ?_
      refine e_lc_ge 64 dX6_isAhead_57 (by decide) (fun h4 => ?_) (fun h4 => ?_)
      · skip
        have h4' := Int64.not_lt.mpr h4
        refine e_ic (nI 0) dX6_isAhead_64 (by decide) ?_
        refine e_goto 78 dX6_isAhead_65 (by decide) ?_
        exact e_retI dX6_isAhead_78 rfl rfl (bI_f (by simp [ahead, cls_eq.mp h1, h2, h4])) rfl
      · skip
        have h4' := Int64.not_le.mp h4
        refine e_ic (nI 1) dX6_isAhead_60 (by decide) ?_
        refine e_goto 78 dX6_isAhead_61 (by decide) ?_
        exact e_retI dX6_isAhead_78 rfl rfl (bI_t (by simp [ahead, cls_eq.mp h1, h2, Int64.not_le.mp h4])) rfl
  · skip
    refine e_aload_n 0 dX6_isAhead_13 rfl ?_
    refine e_iload_n 1 dX6_isAhead_14 rfl ?_
    refine e_callV (ci := 6) (st := []) (st1 := [.int (cls kf t)]) (As := [.int (nI t)]) (m_classOf hX (by omega)) dX6_isAhead_15 (by decide) cm_X6_classOf lk_X6_47 im_X6_classOf rfl sel_X6_classOf hX.1 rfl rfl (Nat.le_of_ble_eq_true rfl) rfl ?_
    refine e_aload_n 0 dX6_isAhead_18 rfl ?_
    refine e_iload_n 2 dX6_isAhead_19 rfl ?_
    refine e_callV (ci := 6) (st := [.int (cls kf t)]) (st1 := [.int (cls kf s), .int (cls kf t)]) (As := [.int (nI s)]) (m_classOf hX (by omega)) dX6_isAhead_20 (by decide) cm_X6_classOf lk_X6_47 im_X6_classOf rfl sel_X6_classOf hX.1 rfl rfl (Nat.le_of_ble_eq_true rfl) rfl ?_
    refine e_icmp_ge 30 dX6_isAhead_23 (by decide) (fun h5 => ?_) (fun h5 => ?_)
    · skip
      have h5' := Int32.not_lt.mpr h5
      refine e_ic (nI 0) dX6_isAhead_30 (by decide) ?_
      exact e_retI dX6_isAhead_31 rfl rfl (bI_f (by have := mt (cls_lt h1).mpr (Int32.not_lt.mpr h5); simp [ahead, mt cls_eq.mpr h1] at this ⊢; exact this)) rfl
    · skip
      have h5' := Int32.not_le.mp h5
      refine e_ic (nI 1) dX6_isAhead_26 (by decide) ?_
      refine e_goto 31 dX6_isAhead_27 (by decide) ?_
      exact e_retI dX6_isAhead_31 rfl rfl (bI_t (by have := (cls_lt h1).mp (Int32.not_le.mp h5); unfold ahead; rw [if_neg (mt cls_eq.mpr h1)]; exact this)) rfl
end Model1
