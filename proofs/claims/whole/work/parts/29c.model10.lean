/-! the reference: image, load, program -/
section Model10
variable {G : GG} {m : Mem} {X : XX} {kf : KF} {vf : VF} {lf : Nat → Int32}
set_option maxRecDepth 100000 in
set_option maxHeartbeats 4000000 in
theorem m_image (hX : MW m X) {n c : Nat} (hn : kf 1 = nI n) (hn2 : n ≤ 200) (hr : kf 3 = nI c) (hc : c ≤ 8000) (hm : HM kf n) : Ev G 4 uX6_image [.ref X.1] (MM m X (kf, vf, lf)) (some (.long (dgF kf vf))) (MM (imgM m X kf vf) X (kf, vf, lf)) := by
  refine Ev.of (by decide +kernel) (Nat.le_of_ble_eq_true rfl) ?_
  have L2 : ∀ (k i : Nat), i + k = 200 → EvB G 4 uX6_image (zz (MM m X (kf, vf, lf))) (nn (MM m X (kf, vf, lf))) (some (.long (dgF kf vf))) (MM (imgM m X kf vf) X (kf, vf, lf)) 28 [(1, .int (nI i)), (0, .ref X.1)] [] (MM (sRL (sRI m X.2.2.2.1 (cpF kf (aI m X.2.2.2.1) 142000)) X.2.2.2.2.1 (cpF vf (aL m X.2.2.2.2.1) i)) X (kf, vf, lf)) := by
    intro k
    induction k with
    | zero =>
      intro i hi
      refine e_iload_n 0 dX6_image_28 rfl ?_
      refine e_sipush (v := nI 200) dX6_image_29 (by decide) ?_
      refine e_icmp_geN 53 dX6_image_32 (by decide) (by omega) (by omega) (fun _ => ?_) (fun h => absurd h (by omega))
      refine e_aload_n 1 dX6_image_53 rfl ?_
      refine e_ic (nI 1) dX6_image_54 (by decide) ?_
      refine e_putI (ci := 6) (k := 4) dX6_image_55 fl_X6_194 rfl (fun q h => by cases h; rfl) ⟨rfl, rfl⟩ hX.1 ?_
      have e1 : i = 200 := by omega
      subst e1
      refine e_mem (m' := MM (imgM m X kf vf) X (kf, vf, lf)) rfl ?_
      have hX : MW (imgM m X kf vf) X := hX
      refine e_aload_n 1 dX6_image_58 rfl ?_
      refine e_callV (ci := 6) (st := []) (st1 := [.long (dgF kf vf)]) (As := []) (m_digest hX hn hn2 hr hc hm) dX6_image_59 (by decide) cm_X6_digest lk_X6_198 im_X6_digest rfl sel_X6_digest hX.1 rfl rfl (Nat.le_of_ble_eq_true rfl) rfl ?_
      exact e_retL dX6_image_62 rfl rfl rfl
    | succ k ih =>
      intro i hi
      refine e_iload_n 0 dX6_image_28 rfl ?_
      refine e_sipush (v := nI 200) dX6_image_29 (by decide) ?_
      refine e_icmp_geN 53 dX6_image_32 (by decide) (by omega) (by omega) (fun h => absurd h (by omega)) (fun _ => ?_)
      refine e_aload_n 1 dX6_image_35 rfl ?_
      refine e_getP (some X.2.2.2.2.1) dX6_image_36 fl_X6_21 rfl hX.1 hX.2.2.2.2.1 ?_
      refine e_iload_n 0 dX6_image_39 rfl ?_
      refine e_aload_n 1 dX6_image_40 rfl ?_
      refine e_mv hX dX6_image_41 fl_X6_14 ?_
      refine e_iload_n 0 dX6_image_44 rfl ?_
      refine e_vld hX dX6_image_45 (by omega) ?_
      refine e_vvst (m := (sRI m X.2.2.2.1 (cpF kf (aI m X.2.2.2.1) 142000))) hX dX6_image_46 (by omega) ?_
      refine e_iinc1N (lv' := [(1, .int (nI (i + 1))), (0, .ref X.1)]) 0 dX6_image_47 rfl (by decide) rfl ?_
      refine e_goto 28 dX6_image_50 (by decide) ?_
      refine e_sub [0, 1] rfl ?_
      rw [cp_sL]
      exact ih (i + 1) (by omega)
  have L1 : ∀ (k i : Nat), i + k = 142000 → EvB G 4 uX6_image (zz (MM m X (kf, vf, lf))) (nn (MM m X (kf, vf, lf))) (some (.long (dgF kf vf))) (MM (imgM m X kf vf) X (kf, vf, lf)) 2 [(1, .int (nI i)), (0, .ref X.1)] [] (MM (sRI m X.2.2.2.1 (cpF kf (aI m X.2.2.2.1) i)) X (kf, vf, lf)) := by
    intro k
    induction k with
    | zero =>
      intro i hi
      refine e_iload_n 0 dX6_image_2 rfl ?_
      refine e_ldc dX6_image_3 cs_X6_7 ?_
      refine e_iv (w := nI 142000) (by decide) ?_
      refine e_icmp_geN 26 dX6_image_5 (by decide) (by omega) (by omega) (fun _ => ?_) (fun h => absurd h (by omega))
      refine e_ic (nI 0) dX6_image_26 (by decide) ?_
      refine e_istore_n (lv' := [(1, .int (nI 0)), (0, .ref X.1)]) dX6_image_27 (by decide) rfl ?_
      refine e_sub [0, 1] rfl ?_
      have e1 : i = 142000 := by omega
      subst e1
      refine e_mem (m' := (MM (sRL (sRI m X.2.2.2.1 (cpF kf (aI m X.2.2.2.1) 142000)) X.2.2.2.2.1 (cpF vf (aL m X.2.2.2.2.1) 0)) X (kf, vf, lf))) (by rw [cp_0]; rw [show aL m X.2.2.2.2.1 = aL (sRI m X.2.2.2.1 (cpF kf (aI m X.2.2.2.1) 142000)) X.2.2.2.2.1 from rfl, sRL_self]) ?_
      exact L2 200 0 (by omega)
    | succ k ih =>
      intro i hi
      refine e_iload_n 0 dX6_image_2 rfl ?_
      refine e_ldc dX6_image_3 cs_X6_7 ?_
      refine e_iv (w := nI 142000) (by decide) ?_
      refine e_icmp_geN 26 dX6_image_5 (by decide) (by omega) (by omega) (fun h => absurd h (by omega)) (fun _ => ?_)
      refine e_aload_n 1 dX6_image_8 rfl ?_
      refine e_getP (some X.2.2.2.1) dX6_image_9 fl_X6_18 rfl hX.1 hX.2.2.2.1 ?_
      refine e_iload_n 0 dX6_image_12 rfl ?_
      refine e_aload_n 1 dX6_image_13 rfl ?_
      refine e_mk hX dX6_image_14 fl_X6_8 ?_
      refine e_iload_n 0 dX6_image_17 rfl ?_
      refine e_kld hX dX6_image_18 (by omega) ?_
      refine e_kkst (m := m) hX dX6_image_19 (by omega) ?_
      refine e_iinc1N (lv' := [(1, .int (nI (i + 1))), (0, .ref X.1)]) 0 dX6_image_20 rfl (by decide) rfl ?_
      refine e_goto 2 dX6_image_23 (by decide) ?_
      refine e_sub [0, 1] rfl ?_
      rw [cp_s]
      exact ih (i + 1) (by omega)
  refine e_lvs (lv' := [(0, .ref X.1)]) rfl ?_
  refine e_ic (nI 0) dX6_image_0 (by decide) ?_
  refine e_istore_n (lv' := [(1, .int (nI 0)), (0, .ref X.1)]) dX6_image_1 (by decide) rfl ?_
  refine e_sub [0, 1] rfl ?_
  refine e_mem (m' := (MM (sRI m X.2.2.2.1 (cpF kf (aI m X.2.2.2.1) 0)) X (kf, vf, lf))) (by rw [cp_0, sRI_self]) ?_
  exact L1 142000 0 (by omega)
set_option maxRecDepth 100000 in
set_option maxHeartbeats 4000000 in
theorem m_load0 (hX : MW m X) (hI : gI m 124 X.1 = nI 0) : Ev G 0 uX6_load [.ref X.1] (MM m X (kf, vf, lf)) (some (.int (nI 0))) (MM (sI m 125 X.1 (nI 2)) X (kf, vf, lf)) := by
  refine Ev.of (by decide +kernel) (Nat.le_of_ble_eq_true rfl) ?_
  refine e_lvs (lv' := [(0, .ref X.1)]) rfl ?_
  refine e_aload_n 0 dX6_load_0 rfl ?_
  refine e_aload_n 0 dX6_load_1 rfl ?_
  refine e_getIv (nI 0) dX6_load_2 fl_X6_194 rfl hX.1 hI ?_
  refine e_if_eq 12 dX6_load_5 (by decide) (fun _ => ?_) (fun h => absurd h (by decide))
  refine e_ic (nI 2) dX6_load_12 (by decide) ?_
  refine e_putI (ci := 6) (k := 5) dX6_load_13 fl_X6_40 rfl (fun q h => by cases h; rfl) ⟨rfl, rfl⟩ hX.1 ?_
  refine e_mem (m' := MM (sI m 125 X.1 (nI 2)) X (kf, vf, lf)) rfl ?_
  refine e_aload_n 0 dX6_load_16 rfl ?_
  refine e_getIv (nI 0) dX6_load_17 fl_X6_194 rfl hX.1 hI ?_
  refine e_if_ne 25 dX6_load_20 (by decide) (fun h => absurd h (by decide)) (fun _ => ?_)
  refine e_ic (nI 0) dX6_load_23 (by decide) ?_
  exact e_retI dX6_load_24 rfl rfl rfl
set_option maxRecDepth 100000 in
set_option maxHeartbeats 4000000 in
theorem m_load1 (hX : MW m X) (hI : gI m 124 X.1 = nI 1) : Ev G 0 uX6_load [.ref X.1] (MM m X (kf, vf, lf)) (some (.int (nI 1))) (MM (sI m 125 X.1 (nI 0)) X ((cpF (aI m X.2.2.2.1) kf 142000), (cpF (aL m X.2.2.2.2.1) vf 200), lf)) := by
  refine Ev.of (by decide +kernel) (Nat.le_of_ble_eq_true rfl) ?_
  have L2 : ∀ (k i : Nat), i + k = 200 → EvB G 0 uX6_load (zz (MM m X (kf, vf, lf))) (nn (MM m X (kf, vf, lf))) (some (.int (nI 1))) (MM (sI m 125 X.1 (nI 0)) X ((cpF (aI m X.2.2.2.1) kf 142000), (cpF (aL m X.2.2.2.2.1) vf 200), lf)) 53 [(1, .int (nI i)), (0, .ref X.1)] [] (MM (sI m 125 X.1 (nI 0)) X ((cpF (aI m X.2.2.2.1) kf 142000), (cpF (aL m X.2.2.2.2.1) vf i), lf)) := by
    intro k
    induction k with
    | zero =>
      intro i hi
      have hX : MW (sI m 125 X.1 (nI 0)) X := hX
      refine e_iload_n 0 dX6_load_53 rfl ?_
      refine e_sipush (v := nI 200) dX6_load_54 (by decide) ?_
      refine e_icmp_geN 78 dX6_load_57 (by decide) (by omega) (by omega) (fun _ => ?_) (fun h => absurd h (by omega))
      refine e_ic (nI 1) dX6_load_78 (by decide) ?_
      have e1 : i = 200 := by omega
      subst e1
      exact e_retI dX6_load_79 rfl rfl rfl rfl
    | succ k ih =>
      intro i hi
      have hX : MW (sI m 125 X.1 (nI 0)) X := hX
      refine e_iload_n 0 dX6_load_53 rfl ?_
      refine e_sipush (v := nI 200) dX6_load_54 (by decide) ?_
      refine e_icmp_geN 78 dX6_load_57 (by decide) (by omega) (by omega) (fun h => absurd h (by omega)) (fun _ => ?_)
      refine e_aload_n 1 dX6_load_60 rfl ?_
      refine e_mv hX dX6_load_61 fl_X6_14 ?_
      refine e_iload_n 0 dX6_load_64 rfl ?_
      refine e_aload_n 1 dX6_load_65 rfl ?_
      refine e_getP (some X.2.2.2.2.1) dX6_load_66 fl_X6_21 rfl hX.1 hX.2.2.2.2.1 ?_
      refine e_iload_n 0 dX6_load_69 rfl ?_
      refine e_vvld hX dX6_load_70 (by omega) ?_
      refine e_vst hX dX6_load_71 (by omega) ?_
      refine e_iinc1N (lv' := [(1, .int (nI (i + 1))), (0, .ref X.1)]) 0 dX6_load_72 rfl (by decide) rfl ?_
      refine e_goto 53 dX6_load_75 (by decide) ?_
      refine e_sub [0, 1] rfl ?_
      rw [show aL (sI m 125 X.1 (nI 0)) X.2.2.2.2.1 i = aL m X.2.2.2.2.1 i from rfl, cp_sL]
      exact ih (i + 1) (by omega)
  have L1 : ∀ (k i : Nat), i + k = 142000 → EvB G 0 uX6_load (zz (MM m X (kf, vf, lf))) (nn (MM m X (kf, vf, lf))) (some (.int (nI 1))) (MM (sI m 125 X.1 (nI 0)) X ((cpF (aI m X.2.2.2.1) kf 142000), (cpF (aL m X.2.2.2.2.1) vf 200), lf)) 27 [(1, .int (nI i)), (0, .ref X.1)] [] (MM (sI m 125 X.1 (nI 0)) X ((cpF (aI m X.2.2.2.1) kf i), vf, lf)) := by
    intro k
    induction k with
    | zero =>
      intro i hi
      have hX : MW (sI m 125 X.1 (nI 0)) X := hX
      refine e_iload_n 0 dX6_load_27 rfl ?_
      refine e_ldc dX6_load_28 cs_X6_7 ?_
      refine e_iv (w := nI 142000) (by decide) ?_
      refine e_icmp_geN 51 dX6_load_30 (by decide) (by omega) (by omega) (fun _ => ?_) (fun h => absurd h (by omega))
      refine e_ic (nI 0) dX6_load_51 (by decide) ?_
      refine e_istore_n (lv' := [(1, .int (nI 0)), (0, .ref X.1)]) dX6_load_52 (by decide) rfl ?_
      refine e_sub [0, 1] rfl ?_
      have e1 : i = 142000 := by omega
      subst e1
      refine e_mem (m' := (MM (sI m 125 X.1 (nI 0)) X ((cpF (aI m X.2.2.2.1) kf 142000), (cpF (aL m X.2.2.2.2.1) vf 0), lf))) (by rw [cp_0]) ?_
      exact L2 200 0 (by omega)
    | succ k ih =>
      intro i hi
      have hX : MW (sI m 125 X.1 (nI 0)) X := hX
      refine e_iload_n 0 dX6_load_27 rfl ?_
      refine e_ldc dX6_load_28 cs_X6_7 ?_
      refine e_iv (w := nI 142000) (by decide) ?_
      refine e_icmp_geN 51 dX6_load_30 (by decide) (by omega) (by omega) (fun h => absurd h (by omega)) (fun _ => ?_)
      refine e_aload_n 1 dX6_load_33 rfl ?_
      refine e_mk hX dX6_load_34 fl_X6_8 ?_
      refine e_iload_n 0 dX6_load_37 rfl ?_
      refine e_aload_n 1 dX6_load_38 rfl ?_
      refine e_getP (some X.2.2.2.1) dX6_load_39 fl_X6_18 rfl hX.1 hX.2.2.2.1 ?_
      refine e_iload_n 0 dX6_load_42 rfl ?_
      refine e_kkld hX dX6_load_43 (by omega) ?_
      refine e_kst hX dX6_load_44 (by omega) ?_
      refine e_iinc1N (lv' := [(1, .int (nI (i + 1))), (0, .ref X.1)]) 0 dX6_load_45 rfl (by decide) rfl ?_
      refine e_goto 27 dX6_load_48 (by decide) ?_
      refine e_sub [0, 1] rfl ?_
      rw [show aI (sI m 125 X.1 (nI 0)) X.2.2.2.1 i = aI m X.2.2.2.1 i from rfl, cp_s]
      exact ih (i + 1) (by omega)
  refine e_lvs (lv' := [(0, .ref X.1)]) rfl ?_
  refine e_aload_n 0 dX6_load_0 rfl ?_
  refine e_aload_n 0 dX6_load_1 rfl ?_
  refine e_getIv (nI 1) dX6_load_2 fl_X6_194 rfl hX.1 hI ?_
  refine e_if_eq 12 dX6_load_5 (by decide) (fun h => absurd h (by decide)) (fun _ => ?_)
  refine e_ic (nI 0) dX6_load_8 (by decide) ?_
  refine e_goto 13 dX6_load_9 (by decide) ?_
  refine e_putI (ci := 6) (k := 5) dX6_load_13 fl_X6_40 rfl (fun q h => by cases h; rfl) ⟨rfl, rfl⟩ hX.1 ?_
  refine e_mem (m' := MM (sI m 125 X.1 (nI 0)) X (kf, vf, lf)) rfl ?_
  refine e_aload_n 0 dX6_load_16 rfl ?_
  refine e_getIv (nI 1) dX6_load_17 fl_X6_194 rfl hX.1 hI ?_
  refine e_if_ne 25 dX6_load_20 (by decide) (fun _ => ?_) (fun h => absurd h (by decide))
  refine e_ic (nI 0) dX6_load_25 (by decide) ?_
  refine e_istore_n (lv' := [(1, .int (nI 0)), (0, .ref X.1)]) dX6_load_26 (by decide) rfl ?_
  refine e_sub [0, 1] rfl ?_
  refine e_mem (m' := (MM (sI m 125 X.1 (nI 0)) X ((cpF (aI m X.2.2.2.1) kf 0), vf, lf))) (by rw [cp_0]) ?_
  exact L1 142000 0 (by omega)
set_option maxRecDepth 100000 in
set_option maxHeartbeats 4000000 in
theorem m_program (hX : MW m X) (hL : LN kf) {p n : Int32} {ei : Int64} : Ev G 1 uX6_program [.ref X.1, .int p, .long ei, .int n] (MM m X (kf, vf, lf)) (some (.int (progR kf p n))) (MM (sI m 125 X.1 (rfs kf (whyProg kf p n))) X (progK kf p ei n, vf, lf)) := by
  refine Ev.of (by decide +kernel) (Nat.le_of_ble_eq_true rfl) ?_
  refine e_lvs (lv' := [(0, .ref X.1), (1, .int p), (2, .long ei), (4, .int n)]) rfl ?_
  refine e_iload_n 1 dX6_program_0 rfl ?_
  refine e_i2l dX6_program_1 ?_
  refine e_lconst (v := lN 0) dX6_program_2 (by decide) ?_
  refine e_ldc2 dX6_program_3 cs_X6_125 ?_
  refine e_lv (w := lN 31) (by decide) ?_
  refine e_callS (st := []) (st1 := [.int (bI (inI p (nI 0) (nI 31)))]) (As := [.long p.toInt64, .long (lN 0), .long (lN 31)]) (m_isInI (x := p) (lo := (nI 0)) (hi := (nI 31)) rfl ((nI_l (by omega)).symm) ((nI_l (by omega)).symm) _) dX6_program_6 (by decide) cm_X6_isIn lk_X6_32 sm_X6_isIn rfl rfl (Nat.le_of_ble_eq_true rfl) rfl ?_
  refine e_if_eqB 29 dX6_program_9 (by decide) (fun h1 => ?_) (fun h1 => ?_)
  · skip
    refine e_ic (nI 0) dX6_program_29 (by decide) ?_
    refine e_istore (lv' := [(5, .int (nI 0)), (0, .ref X.1), (1, .int p), (2, .long ei), (4, .int n)]) dX6_program_30 (by decide) rfl ?_
    refine e_iload_n 2 dX6_program_32 rfl ?_
    refine e_i2l dX6_program_33 ?_
    refine e_lconst (v := lN 0) dX6_program_34 (by decide) ?_
    refine e_ldc2 dX6_program_35 cs_X6_125 ?_
    refine e_lv (w := lN 31) (by decide) ?_
    refine e_callS (st := []) (st1 := [.int (bI (inI p (nI 0) (nI 31)))]) (As := [.long p.toInt64, .long (lN 0), .long (lN 31)]) (m_isInI (x := p) (lo := (nI 0)) (hi := (nI 31)) rfl ((nI_l (by omega)).symm) ((nI_l (by omega)).symm) _) dX6_program_38 (by decide) cm_X6_isIn lk_X6_32 sm_X6_isIn rfl rfl (Nat.le_of_ble_eq_true rfl) rfl ?_
    refine e_if_eqB 61 dX6_program_41 (by decide) (fun _ => ?_) (fun h => absurd h (by rw [h1]; decide))
    refine e_ic (nI 0) dX6_program_61 (by decide) ?_
    refine e_istore (lv' := [(6, .int (nI 0)), (5, .int (nI 0)), (0, .ref X.1), (1, .int p), (2, .long ei), (4, .int n)]) dX6_program_62 (by decide) rfl ?_
    refine e_aload_n 2 dX6_program_64 rfl ?_
    refine e_iload 0 dX6_program_65 rfl ?_
    refine e_if_ne 74 dX6_program_67 (by decide) (fun h => absurd h (by decide)) (fun _ => ?_)
    refine e_ic (nI 1) dX6_program_70 (by decide) ?_
    refine e_goto 90 dX6_program_71 (by decide) ?_
    refine e_callV (ci := 6) (st := []) (st1 := [.int (bI (rfB kf (nI 1)))]) (As := [.int (nI 1)]) (m_isRefused hX) dX6_program_90 (by decide) cm_X6_isRefused lk_X6_153 im_X6_isRefused rfl sel_X6_isRefused hX.1 rfl rfl (Nat.le_of_ble_eq_true rfl) rfl ?_
    have hB : rfB kf (nI 1) = true := rfB_pos (by decide)
    have hX := MW.s (f := 125) (a := X.1) (x := rfs kf (nI 1)) hX
    have e : whyProg kf p n = nI 1 := by simp [whyProg, h1]
    refine e_if_eqB 98 dX6_program_93 (by decide) (fun h => absurd h (by rw [hB]; decide)) (fun _ => ?_)
    refine e_ic ((-1)) dX6_program_96 (by decide) ?_
    exact e_retI dX6_program_97 rfl rfl (by rw [progR, e, if_pos hB]) (by rw [progK, e, if_pos hB])
  · skip
    obtain ⟨a, ha0, ha, rfl⟩ := inI_n (by decide) (by decide) h1
    have ca : (nI a).toNatClampNeg = a := nI_clamp (by omega)
    have hpl : plen kf a ≤ 1000 := plen_le hL (by omega)
    refine e_aload_n 0 dX6_program_12 rfl ?_
    refine e_mk hX dX6_program_13 fl_X6_8 ?_
    refine e_sipush (v := nI 340) dX6_program_16 (by decide) ?_
    refine e_iload_n 1 dX6_program_19 rfl ?_
    refine e_iaddN dX6_program_20 ?_
    refine e_kld hX dX6_program_21 (by omega) ?_
    refine e_ic (nI 0) dX6_program_22 (by decide) ?_
    refine e_jmax dX6_program_23 lkm_X6_120 (Nat.le_of_ble_eq_true rfl) ?_
    refine e_iv (w := nI (plen kf a)) (mx_len hL (by omega)) ?_
    refine e_goto 30 dX6_program_26 (by decide) ?_
    refine e_istore (lv' := [(5, .int (nI (plen kf a))), (0, .ref X.1), (1, .int (nI a)), (2, .long ei), (4, .int n)]) dX6_program_30 (by decide) rfl ?_
    refine e_iload_n 2 dX6_program_32 rfl ?_
    refine e_i2lN dX6_program_33 (by omega) ?_
    refine e_lconst (v := lN 0) dX6_program_34 (by decide) ?_
    refine e_ldc2 dX6_program_35 cs_X6_125 ?_
    refine e_lv (w := lN 31) (by decide) ?_
    refine e_callS (st := []) (st1 := [.int (bI (inI (nI a) (nI 0) (nI 31)))]) (As := [.long (lN a), .long (lN 0), .long (lN 31)]) (m_isInI (x := (nI a)) (lo := (nI 0)) (hi := (nI 31)) ((nI_l (by omega)).symm) ((nI_l (by omega)).symm) ((nI_l (by omega)).symm) _) dX6_program_38 (by decide) cm_X6_isIn lk_X6_32 sm_X6_isIn rfl rfl (Nat.le_of_ble_eq_true rfl) rfl ?_
    refine e_if_eqB 61 dX6_program_41 (by decide) (fun h => absurd h (by rw [h1]; decide)) (fun _ => ?_)
    refine e_iload 4 dX6_program_44 rfl ?_
    refine e_i2l dX6_program_46 ?_
    refine e_lconst (v := lN 0) dX6_program_47 (by decide) ?_
    refine e_ldc2 dX6_program_48 cs_X6_151 ?_
    refine e_lv (w := lN 8) (by decide) ?_
    refine e_callS (st := []) (st1 := [.int (bI (inI n (nI 0) (nI 8)))]) (As := [.long n.toInt64, .long (lN 0), .long (lN 8)]) (m_isInI (x := n) (lo := (nI 0)) (hi := (nI 8)) rfl ((nI_l (by omega)).symm) ((nI_l (by omega)).symm) _) dX6_program_51 (by decide) cm_X6_isIn lk_X6_32 sm_X6_isIn rfl rfl (Nat.le_of_ble_eq_true rfl) rfl ?_
    refine e_if_eqB 61 dX6_program_54 (by decide) (fun h2 => ?_) (fun h2 => ?_)
    · skip
      refine e_ic (nI 0) dX6_program_61 (by decide) ?_
      refine e_istore (lv' := [(6, .int (nI 0)), (5, .int (nI (plen kf a))), (0, .ref X.1), (1, .int (nI a)), (2, .long ei), (4, .int n)]) dX6_program_62 (by decide) rfl ?_
      refine e_aload_n 2 dX6_program_64 rfl ?_
      refine e_iload 0 dX6_program_65 rfl ?_
      refine e_if_ne 74 dX6_program_67 (by decide) (fun h => absurd h (by decide)) (fun _ => ?_)
      refine e_ic (nI 1) dX6_program_70 (by decide) ?_
      refine e_goto 90 dX6_program_71 (by decide) ?_
      refine e_callV (ci := 6) (st := []) (st1 := [.int (bI (rfB kf (nI 1)))]) (As := [.int (nI 1)]) (m_isRefused hX) dX6_program_90 (by decide) cm_X6_isRefused lk_X6_153 im_X6_isRefused rfl sel_X6_isRefused hX.1 rfl rfl (Nat.le_of_ble_eq_true rfl) rfl ?_
      have hB : rfB kf (nI 1) = true := rfB_pos (by decide)
      have hX := MW.s (f := 125) (a := X.1) (x := rfs kf (nI 1)) hX
      have e : whyProg kf (nI a) n = nI 1 := by simp [whyProg, h1, h2, ca]
      refine e_if_eqB 98 dX6_program_93 (by decide) (fun h => absurd h (by rw [hB]; decide)) (fun _ => ?_)
      refine e_ic ((-1)) dX6_program_96 (by decide) ?_
      exact e_retI dX6_program_97 rfl rfl (by rw [progR, e, if_pos hB]) (by rw [progK, e, if_pos hB])
    · skip
      obtain ⟨b, hb0, hb, rfl⟩ := inI_n (by decide) (by decide) h2
      have cb : (nI b).toNatClampNeg = b := nI_clamp (by omega)
      refine e_ic (nI 1) dX6_program_57 (by decide) ?_
      refine e_goto 62 dX6_program_58 (by decide) ?_
      refine e_istore (lv' := [(6, .int (nI 1)), (5, .int (nI (plen kf a))), (0, .ref X.1), (1, .int (nI a)), (2, .long ei), (4, .int (nI b))]) dX6_program_62 (by decide) rfl ?_
      refine e_aload_n 2 dX6_program_64 rfl ?_
      refine e_iload 0 dX6_program_65 rfl ?_
      refine e_if_ne 74 dX6_program_67 (by decide) (fun _ => ?_) (fun h => absurd h (by decide))
      refine e_iload 1 dX6_program_74 rfl ?_
      refine e_iload 5 dX6_program_76 rfl ?_
      refine e_iaddN dX6_program_78 ?_
      refine e_sipush (v := nI 1000) dX6_program_79 (by decide) ?_
      refine e_icmp_leN 89 dX6_program_82 (by decide) (by omega) (by omega) (fun h3 => ?_) (fun h3 => ?_)
      · skip
        have h3' := Nat.not_lt.mpr h3
        refine e_ic (nI 0) dX6_program_89 (by decide) ?_
        refine e_callV (ci := 6) (st := []) (st1 := [.int (bI (rfB kf (nI 0)))]) (As := [.int (nI 0)]) (m_isRefused hX) dX6_program_90 (by decide) cm_X6_isRefused lk_X6_153 im_X6_isRefused rfl sel_X6_isRefused hX.1 rfl rfl (Nat.le_of_ble_eq_true rfl) rfl ?_
        have hX := MW.s (f := 125) (a := X.1) (x := rfs kf (nI 0)) hX
        have e : whyProg kf (nI a) (nI b) = nI 0 := by simp [whyProg, h1, h2, h3, h3', ca, cb]
        refine e_if_eqB 98 dX6_program_93 (by decide) (fun hB => ?_) (fun hB => ?_)
        · skip
          refine e_ic (nI 0) dX6_program_98 (by decide) ?_
          refine e_istore (lv' := [(7, .int (nI 0)), (6, .int (nI 1)), (5, .int (nI (plen kf a))), (0, .ref X.1), (1, .int (nI a)), (2, .long ei), (4, .int (nI b))]) dX6_program_99 (by decide) rfl ?_
          have L : ∀ (k i : Nat), i + k = b → EvB G 1 uX6_program (zz (MM m X (kf, vf, lf))) (nn (MM m X (kf, vf, lf))) (some (.int (progR kf (nI a) (nI b)))) (MM (sI m 125 X.1 (rfs kf (whyProg kf (nI a) (nI b)))) X (progK kf (nI a) ei (nI b), vf, lf)) 101 [(7, .int (nI i)), (6, .int (nI 1)), (5, .int (nI (plen kf a))), (4, .int (nI b)), (2, .long ei), (0, .ref X.1), (1, .int (nI a))] [] (MM (sI m 125 X.1 (rfs kf (nI 0))) X ((progB (rfK kf (nI 0)) a (plen kf a) ei i), vf, lf)) := by
            intro k
            induction k with
            | zero =>
              intro i hi
              refine e_iload 0 dX6_program_101 rfl ?_
              refine e_iload 3 dX6_program_103 rfl ?_
              refine e_icmp_geN 146 dX6_program_105 (by decide) (by omega) (by omega) (fun _ => ?_) (fun h => absurd h (by omega))
              refine e_aload_n 5 dX6_program_146 rfl ?_
              refine e_mk hX dX6_program_147 fl_X6_8 ?_
              refine e_sipush (v := nI 340) dX6_program_150 (by decide) ?_
              refine e_iload_n 6 dX6_program_153 rfl ?_
              refine e_iaddN dX6_program_154 ?_
              refine e_iload 2 dX6_program_155 rfl ?_
              refine e_iload 3 dX6_program_157 rfl ?_
              refine e_iaddN dX6_program_159 ?_
              refine e_kst hX dX6_program_160 (by omega) ?_
              refine e_iload 2 dX6_program_161 rfl ?_
              refine e_iload 3 dX6_program_163 rfl ?_
              refine e_iaddN dX6_program_165 ?_
              exact e_retI dX6_program_166 rfl rfl (by rw [progR, e, if_neg (by rw [hB]; decide), ca, cb]) (by rw [progK, e, if_neg (by rw [hB]; decide), ca, cb, show i = b by omega])
            | succ k ih =>
              intro i hi
              refine e_iload 0 dX6_program_101 rfl ?_
              refine e_iload 3 dX6_program_103 rfl ?_
              refine e_icmp_geN 146 dX6_program_105 (by decide) (by omega) (by omega) (fun h => absurd h (by omega)) (fun _ => ?_)
              refine e_aload_n 5 dX6_program_108 rfl ?_
              refine e_mk hX dX6_program_109 fl_X6_8 ?_
              refine e_sipush (v := nI 30000) dX6_program_112 (by decide) ?_
              refine e_sipush (v := nI 1000) dX6_program_115 (by decide) ?_
              refine e_iload_n 6 dX6_program_118 rfl ?_
              refine e_imulN dX6_program_119 ?_
              refine e_iaddN dX6_program_120 ?_
              refine e_iload 2 dX6_program_121 rfl ?_
              refine e_iaddN dX6_program_123 ?_
              refine e_iload 0 dX6_program_124 rfl ?_
              refine e_iaddN dX6_program_126 ?_
              refine e_lload_n 4 dX6_program_127 rfl ?_
              refine e_bipush (v := nI 56) dX6_program_128 (by decide) ?_
              refine e_bipush (v := nI 8) dX6_program_130 (by decide) ?_
              refine e_iload 0 dX6_program_132 rfl ?_
              refine e_imulN dX6_program_134 ?_
              refine e_isubN dX6_program_135 (by omega) ?_
              refine e_lshr dX6_program_136 ?_
              refine e_l2i dX6_program_137 ?_
              refine e_i2b dX6_program_138 ?_
              refine e_kst hX dX6_program_139 (by omega) ?_
              refine e_iinc1N (lv' := [(7, .int (nI (i + 1))), (6, .int (nI 1)), (5, .int (nI (plen kf a))), (4, .int (nI b)), (2, .long ei), (0, .ref X.1), (1, .int (nI a))]) 0 dX6_program_140 rfl (by decide) rfl ?_
              refine e_goto 101 dX6_program_143 (by decide) ?_
              refine e_sub [0, 1, 2, 3, 4, 5, 6] rfl ?_
              exact ih (i + 1) (by omega)
          refine e_sub [0, 1, 2, 6, 5, 3, 4] rfl ?_
          exact L b 0 (by omega)
        · skip
          refine e_ic ((-1)) dX6_program_96 (by decide) ?_
          exact e_retI dX6_program_97 rfl rfl (by rw [progR, e, if_pos hB]) (by rw [progK, e, if_pos hB])
      · skip
        have h3' := Nat.not_le.mpr h3
        refine e_ic (nI 2) dX6_program_85 (by decide) ?_
        refine e_goto 90 dX6_program_86 (by decide) ?_
        refine e_callV (ci := 6) (st := []) (st1 := [.int (bI (rfB kf (nI 2)))]) (As := [.int (nI 2)]) (m_isRefused hX) dX6_program_90 (by decide) cm_X6_isRefused lk_X6_153 im_X6_isRefused rfl sel_X6_isRefused hX.1 rfl rfl (Nat.le_of_ble_eq_true rfl) rfl ?_
        have hB : rfB kf (nI 2) = true := rfB_pos (by decide)
        have hX := MW.s (f := 125) (a := X.1) (x := rfs kf (nI 2)) hX
        have e : whyProg kf (nI a) (nI b) = nI 2 := by simp [whyProg, h1, h2, h3, h3', ca, cb]
        refine e_if_eqB 98 dX6_program_93 (by decide) (fun h => absurd h (by rw [hB]; decide)) (fun _ => ?_)
        refine e_ic ((-1)) dX6_program_96 (by decide) ?_
        exact e_retI dX6_program_97 rfl rfl (by rw [progR, e, if_pos hB]) (by rw [progK, e, if_pos hB])
end Model10
