/-! the reference: what it answers -/
section Model7
variable {G : GG} {m : Mem} {X : XX} {kf : KF} {vf : VF} {lf : Nat → Int32}
set_option maxRecDepth 100000 in
set_option maxHeartbeats 4000000 in
theorem m_chosen (hX : MW m X) {p : Int32} : Ev G 1 uX6_chosen [.ref X.1, .int p] (MM m X (kf, vf, lf)) (some (.int (chsR kf p))) (MM m X (kf, vf, lf)) := by
  refine Ev.of (by decide +kernel) (Nat.le_of_ble_eq_true rfl) ?_
  refine e_lvs (lv' := [(0, .ref X.1), (1, .int p)]) rfl ?_
  refine e_iload_n 1 dX6_chosen_0 rfl ?_
  refine e_i2l dX6_chosen_1 ?_
  refine e_lconst (v := lN 0) dX6_chosen_2 (by decide) ?_
  refine e_ldc2 dX6_chosen_3 cs_X6_112 ?_
  refine e_lv (w := lN 3) (by decide) ?_
  refine e_callS (st := []) (st1 := [.int (bI (inI p (nI 0) (nI 3)))]) (As := [.long p.toInt64, .long (lN 0), .long (lN 3)]) (m_isInI (x := p) (lo := (nI 0)) (hi := (nI 3)) rfl ((nI_l (by omega)).symm) ((nI_l (by omega)).symm) _) dX6_chosen_6 (by decide) cm_X6_isIn lk_X6_32 sm_X6_isIn rfl rfl (Nat.le_of_ble_eq_true rfl) rfl ?_
  refine e_if_eqB 24 dX6_chosen_9 (by decide) (fun h1 => ?_) (fun h1 => ?_)
  · skip
    refine e_ic ((-1)) dX6_chosen_24 (by decide) ?_
    exact e_retI dX6_chosen_25 rfl rfl (by simp [chsR, h1]) rfl
  · skip
    obtain ⟨j, hj0, hj, rfl⟩ := inI_n (by decide) (by decide) h1
    have cj : (nI j).toNatClampNeg = j := nI_clamp (by omega)
    refine e_aload_n 0 dX6_chosen_12 rfl ?_
    refine e_mk hX dX6_chosen_13 fl_X6_8 ?_
    refine e_bipush (v := nI 7) dX6_chosen_16 (by decide) ?_
    refine e_iload_n 1 dX6_chosen_18 rfl ?_
    refine e_iaddN dX6_chosen_19 ?_
    refine e_kld hX dX6_chosen_20 (by omega) ?_
    refine e_goto 25 dX6_chosen_21 (by decide) ?_
    exact e_retI dX6_chosen_25 rfl rfl (by simp [chsR, h1, cj]) rfl
set_option maxRecDepth 100000 in
set_option maxHeartbeats 4000000 in
theorem m_holder (hX : MW m X) {l : Int32} : Ev G 1 uX6_holder [.ref X.1, .int l] (MM m X (kf, vf, lf)) (some (.int (hoR kf l))) (MM m X (kf, vf, lf)) := by
  refine Ev.of (by decide +kernel) (Nat.le_of_ble_eq_true rfl) ?_
  refine e_lvs (lv' := [(0, .ref X.1), (1, .int l)]) rfl ?_
  refine e_iload_n 1 dX6_holder_0 rfl ?_
  refine e_i2l dX6_holder_1 ?_
  refine e_lconst (v := lN 0) dX6_holder_2 (by decide) ?_
  refine e_ldc2 dX6_holder_3 cs_X6_118 ?_
  refine e_lv (w := lN 99) (by decide) ?_
  refine e_callS (st := []) (st1 := [.int (bI (inI l (nI 0) (nI 99)))]) (As := [.long l.toInt64, .long (lN 0), .long (lN 99)]) (m_isInI (x := l) (lo := (nI 0)) (hi := (nI 99)) rfl ((nI_l (by omega)).symm) ((nI_l (by omega)).symm) _) dX6_holder_6 (by decide) cm_X6_isIn lk_X6_32 sm_X6_isIn rfl rfl (Nat.le_of_ble_eq_true rfl) rfl ?_
  refine e_if_eqB 25 dX6_holder_9 (by decide) (fun h1 => ?_) (fun h1 => ?_)
  · skip
    refine e_bipush (v := (-2)) dX6_holder_25 (by decide) ?_
    exact e_retI dX6_holder_27 rfl rfl (by simp [hoR, h1]) rfl
  · skip
    obtain ⟨j, hj0, hj, rfl⟩ := inI_n (by decide) (by decide) h1
    have cj : (nI j).toNatClampNeg = j := nI_clamp (by omega)
    refine e_aload_n 0 dX6_holder_12 rfl ?_
    refine e_mk hX dX6_holder_13 fl_X6_8 ?_
    refine e_sipush (v := nI 240) dX6_holder_16 (by decide) ?_
    refine e_iload_n 1 dX6_holder_19 rfl ?_
    refine e_iaddN dX6_holder_20 ?_
    refine e_kld hX dX6_holder_21 (by omega) ?_
    refine e_goto 27 dX6_holder_22 (by decide) ?_
    exact e_retI dX6_holder_27 rfl rfl (by simp [hoR, h1, cj]) rfl
set_option maxRecDepth 100000 in
set_option maxHeartbeats 4000000 in
theorem m_trace (hX : MW m X) {b : Int32} : Ev G 1 uX6_trace [.ref X.1, .int b] (MM m X (kf, vf, lf)) (some (.int (trR kf b))) (MM m X (kf, vf, lf)) := by
  refine Ev.of (by decide +kernel) (Nat.le_of_ble_eq_true rfl) ?_
  refine e_lvs (lv' := [(0, .ref X.1), (1, .int b)]) rfl ?_
  refine e_iload_n 1 dX6_trace_0 rfl ?_
  refine e_i2l dX6_trace_1 ?_
  refine e_lconst (v := lN 0) dX6_trace_2 (by decide) ?_
  refine e_ldc2 dX6_trace_3 cs_X6_192 ?_
  refine e_lv (w := lN 11) (by decide) ?_
  refine e_callS (st := []) (st1 := [.int (bI (inI b (nI 0) (nI 11)))]) (As := [.long b.toInt64, .long (lN 0), .long (lN 11)]) (m_isInI (x := b) (lo := (nI 0)) (hi := (nI 11)) rfl ((nI_l (by omega)).symm) ((nI_l (by omega)).symm) _) dX6_trace_6 (by decide) cm_X6_isIn lk_X6_32 sm_X6_isIn rfl rfl (Nat.le_of_ble_eq_true rfl) rfl ?_
  refine e_if_eqB 25 dX6_trace_9 (by decide) (fun h1 => ?_) (fun h1 => ?_)
  · skip
    refine e_ic ((-1)) dX6_trace_25 (by decide) ?_
    exact e_retI dX6_trace_26 rfl rfl (by simp [trR, h1]) rfl
  · skip
    obtain ⟨j, hj0, hj, rfl⟩ := inI_n (by decide) (by decide) h1
    have cj : (nI j).toNatClampNeg = j := nI_clamp (by omega)
    refine e_aload_n 0 dX6_trace_12 rfl ?_
    refine e_mk hX dX6_trace_13 fl_X6_8 ?_
    refine e_sipush (v := nI 220) dX6_trace_16 (by decide) ?_
    refine e_iload_n 1 dX6_trace_19 rfl ?_
    refine e_iaddN dX6_trace_20 ?_
    refine e_kld hX dX6_trace_21 (by omega) ?_
    refine e_goto 26 dX6_trace_22 (by decide) ?_
    exact e_retI dX6_trace_26 rfl rfl (by simp [trR, h1, cj]) rfl
set_option maxRecDepth 100000 in
set_option maxHeartbeats 4000000 in
theorem m_about (hX : MW m X) {n : Nat} (hn : kf 1 = nI n) (hn2 : n ≤ 200) {t w : Int32} : Ev G 2 uX6_about [.ref X.1, .int t, .int w] (MM m X (kf, vf, lf)) (some (.int (abR kf t w))) (MM m X (kf, vf, lf)) := by
  refine Ev.of (by decide +kernel) (Nat.le_of_ble_eq_true rfl) ?_
  refine e_lvs (lv' := [(0, .ref X.1), (1, .int t), (2, .int w)]) rfl ?_
  refine e_aload_n 0 dX6_about_0 rfl ?_
  refine e_iload_n 1 dX6_about_1 rfl ?_
  refine e_callV (ci := 6) (st := []) (st1 := [.int (bI (tIn kf t))]) (As := [.int t]) (m_isTask hX) dX6_about_2 (by decide) cm_X6_isTask lk_X6_158 im_X6_isTask rfl sel_X6_isTask hX.1 rfl rfl (Nat.le_of_ble_eq_true rfl) rfl ?_
  refine e_if_eqB 20 dX6_about_5 (by decide) (fun h1 => ?_) (fun h1 => ?_)
  · skip
    refine e_ic ((-1)) dX6_about_20 (by decide) ?_
    exact e_retI dX6_about_21 rfl rfl (by simp [abR, h1]) rfl
  · skip
    obtain ⟨j, hj, rfl⟩ := tIn_n hn hn2 h1
    have cj : (nI j).toNatClampNeg = j := nI_clamp (by omega)
    refine e_iload_n 2 dX6_about_8 rfl ?_
    refine e_i2l dX6_about_9 ?_
    refine e_lconst (v := lN 0) dX6_about_10 (by decide) ?_
    refine e_ldc2 dX6_about_11 cs_X6_170 ?_
    refine e_lv (w := lN 14) (by decide) ?_
    refine e_callS (st := []) (st1 := [.int (bI (inI w (nI 0) (nI 14)))]) (As := [.long w.toInt64, .long (lN 0), .long (lN 14)]) (m_isInI (x := w) (lo := (nI 0)) (hi := (nI 14)) rfl ((nI_l (by omega)).symm) ((nI_l (by omega)).symm) _) dX6_about_14 (by decide) cm_X6_isIn lk_X6_32 sm_X6_isIn rfl rfl (Nat.le_of_ble_eq_true rfl) rfl ?_
    refine e_if_neB 22 dX6_about_17 (by decide) (fun h2 => ?_) (fun h2 => ?_)
    · skip
      obtain ⟨k, hk0, hk, rfl⟩ := inI_n (by decide) (by decide) h2
      have ck : (nI k).toNatClampNeg = k := nI_clamp (by omega)
      refine e_iload_n 2 dX6_about_22 rfl ?_
      refine e_i2lN dX6_about_23 (by omega) ?_
      refine e_ldc2 dX6_about_24 cs_X6_172 ?_
      refine e_lv (w := lN 10) (by decide) ?_
      refine e_ldc2 dX6_about_27 cs_X6_174 ?_
      refine e_lv (w := lN 13) (by decide) ?_
      refine e_callS (st := []) (st1 := [.int (bI (inI (nI k) (nI 10) (nI 13)))]) (As := [.long (lN k), .long (lN 10), .long (lN 13)]) (m_isInI (x := (nI k)) (lo := (nI 10)) (hi := (nI 13)) ((nI_l (by omega)).symm) ((nI_l (by omega)).symm) ((nI_l (by omega)).symm) _) dX6_about_30 (by decide) cm_X6_isIn lk_X6_32 sm_X6_isIn rfl rfl (Nat.le_of_ble_eq_true rfl) rfl ?_
      refine e_if_eqB 48 dX6_about_33 (by decide) (fun h3 => ?_) (fun h3 => ?_)
      · skip
        refine e_aload_n 0 dX6_about_48 rfl ?_
        refine e_iload_n 1 dX6_about_49 rfl ?_
        refine e_iload_n 2 dX6_about_50 rfl ?_
        refine e_callV (ci := 6) (st := []) (st1 := [.int (kg kf j k)]) (As := [.int (nI j), .int (nI k)]) (m_get hX (kg_lt (by omega) (by omega))) dX6_about_51 (by decide) cm_X6_get lk_X6_36 im_X6_get rfl sel_X6_get hX.1 rfl rfl (Nat.le_of_ble_eq_true rfl) rfl ?_
        exact e_retI dX6_about_54 rfl rfl (by simp [abR, h1, h2, h3, cj, ck]) rfl
      · skip
        refine e_aload_n 0 dX6_about_36 rfl ?_
        refine e_iload_n 1 dX6_about_37 rfl ?_
        refine e_callV (ci := 6) (st := []) (st1 := [.int (bI (isDue kf j))]) (As := [.int (nI j)]) (m_isDue hX (by omega)) dX6_about_38 (by decide) cm_X6_isDue lk_X6_43 im_X6_isDue rfl sel_X6_isDue hX.1 rfl rfl (Nat.le_of_ble_eq_true rfl) rfl ?_
        refine e_if_neB 48 dX6_about_41 (by decide) (fun h4 => ?_) (fun h4 => ?_)
        · skip
          refine e_aload_n 0 dX6_about_48 rfl ?_
          refine e_iload_n 1 dX6_about_49 rfl ?_
          refine e_iload_n 2 dX6_about_50 rfl ?_
          refine e_callV (ci := 6) (st := []) (st1 := [.int (kg kf j k)]) (As := [.int (nI j), .int (nI k)]) (m_get hX (kg_lt (by omega) (by omega))) dX6_about_51 (by decide) cm_X6_get lk_X6_36 im_X6_get rfl sel_X6_get hX.1 rfl rfl (Nat.le_of_ble_eq_true rfl) rfl ?_
          exact e_retI dX6_about_54 rfl rfl (by simp [abR, h1, h2, h3, h4, cj, ck]) rfl
        · skip
          refine e_ic ((-1)) dX6_about_44 (by decide) ?_
          refine e_goto 54 dX6_about_45 (by decide) ?_
          exact e_retI dX6_about_54 rfl rfl (by simp [abR, h1, h2, h3, h4, cj, ck]) rfl
    · skip
      refine e_ic ((-1)) dX6_about_20 (by decide) ?_
      exact e_retI dX6_about_21 rfl rfl (by simp [abR, h1, h2, cj]) rfl
set_option maxRecDepth 100000 in
set_option maxHeartbeats 4000000 in
theorem m_virtual (hX : MW m X) {n : Nat} (hn : kf 1 = nI n) (hn2 : n ≤ 200) {t : Int32} : Ev G 2 uX6_virtual [.ref X.1, .int t] (MM m X (kf, vf, lf)) (some (.long (virR kf vf t))) (MM m X (kf, vf, lf)) := by
  refine Ev.of (by decide +kernel) (Nat.le_of_ble_eq_true rfl) ?_
  refine e_lvs (lv' := [(0, .ref X.1), (1, .int t)]) rfl ?_
  refine e_aload_n 0 dX6_virtual_0 rfl ?_
  refine e_iload_n 1 dX6_virtual_1 rfl ?_
  refine e_callV (ci := 6) (st := []) (st1 := [.int (bI (tIn kf t))]) (As := [.int t]) (m_isTask hX) dX6_virtual_2 (by decide) cm_X6_isTask lk_X6_158 im_X6_isTask rfl sel_X6_isTask hX.1 rfl rfl (Nat.le_of_ble_eq_true rfl) rfl ?_
  refine e_if_eqB 17 dX6_virtual_5 (by decide) (fun h1 => ?_) (fun h1 => ?_)
  · skip
    refine e_ldc2 dX6_virtual_17 cs_X6_176 ?_
    exact e_retL dX6_virtual_20 rfl (by simp [virR, h1]) rfl
  · skip
    obtain ⟨j, hj, rfl⟩ := tIn_n hn hn2 h1
    have cj : (nI j).toNatClampNeg = j := nI_clamp (by omega)
    refine e_aload_n 0 dX6_virtual_8 rfl ?_
    refine e_mv hX dX6_virtual_9 fl_X6_14 ?_
    refine e_iload_n 1 dX6_virtual_12 rfl ?_
    refine e_vld hX dX6_virtual_13 (by omega) ?_
    refine e_goto 20 dX6_virtual_14 (by decide) ?_
    exact e_retL dX6_virtual_20 rfl (by simp [virR, h1, cj]) rfl
set_option maxRecDepth 100000 in
set_option maxHeartbeats 4000000 in
theorem m_small (hX : MW m X) {n : Nat} (hn : kf 1 = nI n) (hn2 : n ≤ 200) {t i : Int32} (hm : ∀ j, j < n → kg kf j 14 = -1 ∨ ∃ c, c ≤ 127 ∧ kg kf j 14 = nI c) : Ev G 2 uX6_small [.ref X.1, .int t, .int i] (MM m X (kf, vf, lf)) (some (.int (smR kf t i))) (MM m X (kf, vf, lf)) := by
  refine Ev.of (by decide +kernel) (Nat.le_of_ble_eq_true rfl) ?_
  refine e_lvs (lv' := [(0, .ref X.1), (1, .int t), (2, .int i)]) rfl ?_
  refine e_aload_n 0 dX6_small_0 rfl ?_
  refine e_iload_n 1 dX6_small_1 rfl ?_
  refine e_callV (ci := 6) (st := []) (st1 := [.int (bI (tIn kf t))]) (As := [.int t]) (m_isTask hX) dX6_small_2 (by decide) cm_X6_isTask lk_X6_158 im_X6_isTask rfl sel_X6_isTask hX.1 rfl rfl (Nat.le_of_ble_eq_true rfl) rfl ?_
  refine e_if_eqB 46 dX6_small_5 (by decide) (fun h1 => ?_) (fun h1 => ?_)
  · skip
    refine e_ic (nI 0) dX6_small_46 (by decide) ?_
    exact e_retI dX6_small_47 rfl rfl (by simp [smR, h1]) rfl
  · skip
    obtain ⟨j, hj, rfl⟩ := tIn_n hn hn2 h1
    have cj : (nI j).toNatClampNeg = j := nI_clamp (by omega)
    refine e_iload_n 2 dX6_small_8 rfl ?_
    refine e_i2l dX6_small_9 ?_
    refine e_lconst (v := lN 0) dX6_small_10 (by decide) ?_
    refine e_aload_n 0 dX6_small_11 rfl ?_
    refine e_iload_n 1 dX6_small_12 rfl ?_
    refine e_bipush (v := nI 14) dX6_small_13 (by decide) ?_
    refine e_callV (ci := 6) (st := [.long (lN 0), .long i.toInt64]) (st1 := [.int (kg kf j 14), .long (lN 0), .long i.toInt64]) (As := [.int (nI j), .int (nI 14)]) (m_get hX (kg_lt (by omega) (by omega))) dX6_small_15 (by decide) cm_X6_get lk_X6_36 im_X6_get rfl sel_X6_get hX.1 rfl rfl (Nat.le_of_ble_eq_true rfl) rfl ?_
    refine e_ic (nI 1) dX6_small_18 (by decide) ?_
    refine e_isub dX6_small_19 ?_
    refine e_i2l dX6_small_20 ?_
    refine e_callS (st := []) (st1 := [.int (bI (inI i (nI 0) ((kg kf j 14) - (nI 1))))]) (As := [.long i.toInt64, .long (lN 0), .long (((kg kf j 14) - (nI 1)).toInt64)]) (m_isInI (x := i) (lo := (nI 0)) (hi := ((kg kf j 14) - (nI 1))) rfl ((nI_l (by omega)).symm) rfl _) dX6_small_21 (by decide) cm_X6_isIn lk_X6_32 sm_X6_isIn rfl rfl (Nat.le_of_ble_eq_true rfl) rfl ?_
    refine e_if_eqB 46 dX6_small_24 (by decide) (fun h2 => ?_) (fun h2 => ?_)
    · skip
      refine e_ic (nI 0) dX6_small_46 (by decide) ?_
      exact e_retI dX6_small_47 rfl rfl (by simp [smR, h1, h2, cj]) rfl
    · skip
      obtain ⟨k, hk, rfl⟩ : ∃ k, k < 128 ∧ i = nI k := (hm j hj).elim (fun z => absurd h2 (fun q => inc_m z q)) (fun ⟨c, hc, z⟩ => by obtain ⟨k, hk, e⟩ := inc_n z (by omega) h2; exact ⟨k, by omega, e⟩)
      have ck : (nI k).toNatClampNeg = k := nI_clamp (by omega)
      refine e_aload_n 0 dX6_small_27 rfl ?_
      refine e_mk hX dX6_small_28 fl_X6_8 ?_
      refine e_sipush (v := nI 4400) dX6_small_31 (by decide) ?_
      refine e_sipush (v := nI 128) dX6_small_34 (by decide) ?_
      refine e_iload_n 1 dX6_small_37 rfl ?_
      refine e_imulN dX6_small_38 ?_
      refine e_iaddN dX6_small_39 ?_
      refine e_iload_n 2 dX6_small_40 rfl ?_
      refine e_iaddN dX6_small_41 ?_
      refine e_kld hX dX6_small_42 (by omega) ?_
      refine e_goto 47 dX6_small_43 (by decide) ?_
      exact e_retI dX6_small_47 rfl rfl (by simp [smR, h1, h2, cj, ck]) rfl
set_option maxRecDepth 100000 in
set_option maxHeartbeats 4000000 in
theorem m_standing (hX : MW m X) {n : Nat} (hn : kf 1 = nI n) (hn2 : n ≤ 200) (hC : CH kf n) {t w : Int32} : Ev G 6 uX6_standing [.ref X.1, .int t, .int w] (MM m X (kf, vf, lf)) (some (.long (stR kf vf t w))) (MM m X (kf, vf, lf)) := by
  refine Ev.of (by decide +kernel) (Nat.le_of_ble_eq_true rfl) ?_
  refine e_lvs (lv' := [(0, .ref X.1), (1, .int t), (2, .int w)]) rfl ?_
  refine e_aload_n 0 dX6_standing_0 rfl ?_
  refine e_iload_n 1 dX6_standing_1 rfl ?_
  refine e_callV (ci := 6) (st := []) (st1 := [.int (bI (lvg kf t))]) (As := [.int t]) (m_isLiving hX hn hn2) dX6_standing_2 (by decide) cm_X6_isLiving lk_X6_161 im_X6_isLiving rfl sel_X6_isLiving hX.1 rfl rfl (Nat.le_of_ble_eq_true rfl) rfl ?_
  refine e_if_eqB 20 dX6_standing_5 (by decide) (fun h1 => ?_) (fun h1 => ?_)
  · skip
    refine e_ldc2 dX6_standing_20 cs_X6_176 ?_
    exact e_retL dX6_standing_23 rfl (by simp [stR, h1]) rfl
  · skip
    obtain ⟨j, hj, rfl, hj4⟩ := lvg_n hn hn2 h1
    have cj : (nI j).toNatClampNeg = j := nI_clamp (by omega)
    refine e_iload_n 2 dX6_standing_8 rfl ?_
    refine e_i2l dX6_standing_9 ?_
    refine e_lconst (v := lN 0) dX6_standing_10 (by decide) ?_
    refine e_ldc2 dX6_standing_11 cs_X6_178 ?_
    refine e_lv (w := lN 2) (by decide) ?_
    refine e_callS (st := []) (st1 := [.int (bI (inI w (nI 0) (nI 2)))]) (As := [.long w.toInt64, .long (lN 0), .long (lN 2)]) (m_isInI (x := w) (lo := (nI 0)) (hi := (nI 2)) rfl ((nI_l (by omega)).symm) ((nI_l (by omega)).symm) _) dX6_standing_14 (by decide) cm_X6_isIn lk_X6_32 sm_X6_isIn rfl rfl (Nat.le_of_ble_eq_true rfl) rfl ?_
    refine e_if_neB 24 dX6_standing_17 (by decide) (fun h2 => ?_) (fun h2 => ?_)
    · skip
      have g1 : stnd kf vf j < 200 := stnd_lt (by omega) hn hn2
      refine e_aload_n 0 dX6_standing_24 rfl ?_
      refine e_iload_n 1 dX6_standing_25 rfl ?_
      refine e_callV (ci := 6) (st := []) (st1 := [.int (nI (stnd kf vf j))]) (As := [.int (nI j)]) (m_standingOf hX (by omega) hn hn2 hC) dX6_standing_26 (by decide) cm_X6_standingOf lk_X6_67 im_X6_standingOf rfl sel_X6_standingOf hX.1 rfl rfl (Nat.le_of_ble_eq_true rfl) rfl ?_
      refine e_istore_n (lv' := [(3, .int (nI (stnd kf vf j))), (0, .ref X.1), (1, .int (nI j)), (2, .int w)]) dX6_standing_29 (by decide) rfl ?_
      refine e_iload_n 3 dX6_standing_30 rfl ?_
      refine e_if_ne 43 dX6_standing_31 (by decide) (fun h3 => ?_) (fun h3 => ?_)
      · skip
        refine e_iload_n 3 dX6_standing_43 rfl ?_
        refine e_ic (nI 1) dX6_standing_44 (by decide) ?_
        refine e_iv (w := 1) rfl ?_
        refine e_icmp_ne 56 dX6_standing_45 (by decide) (fun h4 => ?_) (fun h4 => ?_)
        · skip
          refine e_iload_n 0 dX6_standing_56 rfl ?_
          refine e_i2lN dX6_standing_57 (by omega) ?_
          exact e_retL dX6_standing_58 rfl (by unfold stR; rw [h1, h2]; simp [h3, h4, cj]) rfl
        · skip
          refine e_aload_n 1 dX6_standing_48 rfl ?_
          refine e_iload_n 0 dX6_standing_49 rfl ?_
          refine e_callV (ci := 6) (st := []) (st1 := [.long (key kf vf (stnd kf vf j))]) (As := [.int (nI (stnd kf vf j))]) (m_keyOf hX (by omega)) dX6_standing_50 (by decide) cm_X6_keyOf lk_X6_51 im_X6_keyOf rfl sel_X6_keyOf hX.1 rfl rfl (Nat.le_of_ble_eq_true rfl) rfl ?_
          refine e_goto 58 dX6_standing_53 (by decide) ?_
          exact e_retL dX6_standing_58 rfl (by unfold stR; rw [h1, h2]; simp [h3, h4, cj]) rfl
      · skip
        refine e_aload_n 1 dX6_standing_34 rfl ?_
        refine e_iload_n 0 dX6_standing_35 rfl ?_
        refine e_callV (ci := 6) (st := []) (st1 := [.int (cls kf (stnd kf vf j))]) (As := [.int (nI (stnd kf vf j))]) (m_classOf hX (by omega)) dX6_standing_36 (by decide) cm_X6_classOf lk_X6_47 im_X6_classOf rfl sel_X6_classOf hX.1 rfl rfl (Nat.le_of_ble_eq_true rfl) rfl ?_
        refine e_i2l dX6_standing_39 ?_
        refine e_goto 58 dX6_standing_40 (by decide) ?_
        exact e_retL dX6_standing_58 rfl (by unfold stR; rw [h1, h2]; simp [h3, cj]) rfl
    · skip
      refine e_ldc2 dX6_standing_20 cs_X6_176 ?_
      exact e_retL dX6_standing_23 rfl (by simp [stR, h1, h2, cj]) rfl
set_option maxRecDepth 100000 in
set_option maxHeartbeats 4000000 in
theorem m_ringed (hX : MW m X) {k : Int32} {c : Nat} (h5 : kf 5 = nI c) (hc : c ≤ 200) : Ev G 1 uX6_ringed [.ref X.1, .int k] (MM m X (kf, vf, lf)) (some (.int (rgdR kf k))) (MM m X (kf, vf, lf)) := by
  refine Ev.of (by decide +kernel) (Nat.le_of_ble_eq_true rfl) ?_
  refine e_lvs (lv' := [(0, .ref X.1), (1, .int k)]) rfl ?_
  refine e_iload_n 1 dX6_ringed_0 rfl ?_
  refine e_i2l dX6_ringed_1 ?_
  refine e_lconst (v := lN 0) dX6_ringed_2 (by decide) ?_
  refine e_aload_n 0 dX6_ringed_3 rfl ?_
  refine e_mk hX dX6_ringed_4 fl_X6_8 ?_
  refine e_ic (nI 5) dX6_ringed_7 (by decide) ?_
  refine e_kld hX dX6_ringed_8 (by omega) ?_
  refine e_ic (nI 1) dX6_ringed_9 (by decide) ?_
  refine e_isub dX6_ringed_10 ?_
  refine e_i2l dX6_ringed_11 ?_
  refine e_callS (st := []) (st1 := [.int (bI (inI k (nI 0) ((kf (5)) - (nI 1))))]) (As := [.long k.toInt64, .long (lN 0), .long (((kf (5)) - (nI 1)).toInt64)]) (m_isInI (x := k) (lo := (nI 0)) (hi := ((kf (5)) - (nI 1))) rfl ((nI_l (by omega)).symm) rfl _) dX6_ringed_12 (by decide) cm_X6_isIn lk_X6_32 sm_X6_isIn rfl rfl (Nat.le_of_ble_eq_true rfl) rfl ?_
  refine e_if_eqB 30 dX6_ringed_15 (by decide) (fun h1 => ?_) (fun h1 => ?_)
  · skip
    refine e_ic ((-1)) dX6_ringed_30 (by decide) ?_
    exact e_retI dX6_ringed_31 rfl rfl (by simp [rgdR, h1]) rfl
  · skip
    obtain ⟨j, hj, rfl⟩ := inc_n h5 (by omega) h1
    have cj : (nI j).toNatClampNeg = j := nI_clamp (by omega)
    refine e_aload_n 0 dX6_ringed_18 rfl ?_
    refine e_mk hX dX6_ringed_19 fl_X6_8 ?_
    refine e_bipush (v := nI 16) dX6_ringed_22 (by decide) ?_
    refine e_iload_n 1 dX6_ringed_24 rfl ?_
    refine e_iaddN dX6_ringed_25 ?_
    refine e_kld hX dX6_ringed_26 (by omega) ?_
    refine e_goto 31 dX6_ringed_27 (by decide) ?_
    exact e_retI dX6_ringed_31 rfl rfl (by simp [rgdR, h1, cj]) rfl
set_option maxRecDepth 100000 in
set_option maxHeartbeats 4000000 in
theorem m_isRow (hX : MW m X) {k w : Int32} : Ev G 1 uX6_isRow [.ref X.1, .int k, .int w] (MM m X (kf, vf, lf)) (some (.int (bI (rowB kf k w)))) (MM m X (kf, vf, lf)) := by
  refine Ev.of (by decide +kernel) (Nat.le_of_ble_eq_true rfl) ?_
  refine e_lvs (lv' := [(0, .ref X.1), (1, .int k), (2, .int w)]) rfl ?_
  refine e_iload_n 1 dX6_isRow_0 rfl ?_
  refine e_i2l dX6_isRow_1 ?_
  refine e_lconst (v := lN 0) dX6_isRow_2 (by decide) ?_
  refine e_aload_n 0 dX6_isRow_3 rfl ?_
  refine e_mk hX dX6_isRow_4 fl_X6_8 ?_
  refine e_ic (nI 3) dX6_isRow_7 (by decide) ?_
  refine e_kld hX dX6_isRow_8 (by omega) ?_
  refine e_ic (nI 1) dX6_isRow_9 (by decide) ?_
  refine e_isub dX6_isRow_10 ?_
  refine e_i2l dX6_isRow_11 ?_
  refine e_callS (st := []) (st1 := [.int (bI (inI k (nI 0) ((kf (3)) - (nI 1))))]) (As := [.long k.toInt64, .long (lN 0), .long (((kf (3)) - (nI 1)).toInt64)]) (m_isInI (x := k) (lo := (nI 0)) (hi := ((kf (3)) - (nI 1))) rfl ((nI_l (by omega)).symm) rfl _) dX6_isRow_12 (by decide) cm_X6_isIn lk_X6_32 sm_X6_isIn rfl rfl (Nat.le_of_ble_eq_true rfl) rfl ?_
  refine e_if_eqB 34 dX6_isRow_15 (by decide) (fun h1 => ?_) (fun h1 => ?_)
  · skip
    refine e_ic (nI 0) dX6_isRow_34 (by decide) ?_
    exact e_retI dX6_isRow_35 rfl rfl (bI_f (by simp [rowB, h1])) rfl
  · skip
    refine e_iload_n 2 dX6_isRow_18 rfl ?_
    refine e_i2l dX6_isRow_19 ?_
    refine e_lconst (v := lN 0) dX6_isRow_20 (by decide) ?_
    refine e_ldc2 dX6_isRow_21 cs_X6_131 ?_
    refine e_lv (w := lN 4) (by decide) ?_
    refine e_callS (st := []) (st1 := [.int (bI (inI w (nI 0) (nI 4)))]) (As := [.long w.toInt64, .long (lN 0), .long (lN 4)]) (m_isInI (x := w) (lo := (nI 0)) (hi := (nI 4)) rfl ((nI_l (by omega)).symm) ((nI_l (by omega)).symm) _) dX6_isRow_24 (by decide) cm_X6_isIn lk_X6_32 sm_X6_isIn rfl rfl (Nat.le_of_ble_eq_true rfl) rfl ?_
    refine e_if_eqB 34 dX6_isRow_27 (by decide) (fun h2 => ?_) (fun h2 => ?_)
    · skip
      refine e_ic (nI 0) dX6_isRow_34 (by decide) ?_
      exact e_retI dX6_isRow_35 rfl rfl (bI_f (by simp [rowB, h1, h2])) rfl
    · skip
      refine e_ic (nI 1) dX6_isRow_30 (by decide) ?_
      refine e_goto 35 dX6_isRow_31 (by decide) ?_
      exact e_retI dX6_isRow_35 rfl rfl (bI_t (by simp [rowB, h1, h2])) rfl
set_option maxRecDepth 100000 in
set_option maxHeartbeats 4000000 in
theorem m_row (hX : MW m X) {c : Nat} (hr : kf 3 = nI c) (hc : c ≤ 8000) {k w : Int32} : Ev G 2 uX6_row [.ref X.1, .int k, .int w] (MM m X (kf, vf, lf)) (some (.int (rowR kf k w))) (MM m X (kf, vf, lf)) := by
  refine Ev.of (by decide +kernel) (Nat.le_of_ble_eq_true rfl) ?_
  refine e_lvs (lv' := [(0, .ref X.1), (1, .int k), (2, .int w)]) rfl ?_
  refine e_aload_n 0 dX6_row_0 rfl ?_
  refine e_iload_n 1 dX6_row_1 rfl ?_
  refine e_iload_n 2 dX6_row_2 rfl ?_
  refine e_callV (ci := 6) (st := []) (st1 := [.int (bI (rowB kf k w))]) (As := [.int k, .int w]) (m_isRow hX) dX6_row_3 (by decide) cm_X6_isRow lk_X6_180 im_X6_isRow rfl sel_X6_isRow hX.1 rfl rfl (Nat.le_of_ble_eq_true rfl) rfl ?_
  refine e_if_eqB 25 dX6_row_6 (by decide) (fun h1 => ?_) (fun h1 => ?_)
  · skip
    refine e_ic ((-1)) dX6_row_25 (by decide) ?_
    exact e_retI dX6_row_26 rfl rfl (by simp [rowR, h1]) rfl
  · skip
    obtain ⟨i, j, hi, hj, rfl, rfl⟩ := row_n hr hc h1
    have ci : (nI i).toNatClampNeg = i := nI_clamp (by omega)
    have cj : (nI j).toNatClampNeg = j := nI_clamp (by omega)
    refine e_aload_n 0 dX6_row_9 rfl ?_
    refine e_mk hX dX6_row_10 fl_X6_8 ?_
    refine e_ldc dX6_row_13 cs_X6_140 ?_
    refine e_iv (w := nI 62000) (by decide) ?_
    refine e_ic (nI 5) dX6_row_15 (by decide) ?_
    refine e_iload_n 1 dX6_row_16 rfl ?_
    refine e_imulN dX6_row_17 ?_
    refine e_iaddN dX6_row_18 ?_
    refine e_iload_n 2 dX6_row_19 rfl ?_
    refine e_iaddN dX6_row_20 ?_
    refine e_kld hX dX6_row_21 (by omega) ?_
    refine e_goto 26 dX6_row_22 (by decide) ?_
    exact e_retI dX6_row_26 rfl rfl (by simp [rowR, h1, ci, cj]) rfl
set_option maxRecDepth 100000 in
set_option maxHeartbeats 4000000 in
theorem m_forge (hX : MW m X) {c : Nat} (hr : kf 3 = nI c) (hc : c ≤ 8000) {k w b : Int32} : Ev G 2 uX6_forge [.ref X.1, .int k, .int w, .int b] (MM m X (kf, vf, lf)) (some (.int (bI (rowB kf k w)))) (MM (sI m 125 X.1 (if rowB kf k w then nI 0 else nI 1)) X (fgK kf k w b, vf, lf)) := by
  refine Ev.of (by decide +kernel) (Nat.le_of_ble_eq_true rfl) ?_
  refine e_lvs (lv' := [(0, .ref X.1), (1, .int k), (2, .int w), (3, .int b)]) rfl ?_
  refine e_aload_n 0 dX6_forge_0 rfl ?_
  refine e_aload_n 0 dX6_forge_1 rfl ?_
  refine e_iload_n 1 dX6_forge_2 rfl ?_
  refine e_iload_n 2 dX6_forge_3 rfl ?_
  refine e_callV (ci := 6) (st := [.ref X.1]) (st1 := [.int (bI (rowB kf k w)), .ref X.1]) (As := [.int k, .int w]) (m_isRow hX) dX6_forge_4 (by decide) cm_X6_isRow lk_X6_180 im_X6_isRow rfl sel_X6_isRow hX.1 rfl rfl (Nat.le_of_ble_eq_true rfl) rfl ?_
  refine e_if_eqB 14 dX6_forge_7 (by decide) (fun h1 => ?_) (fun h1 => ?_)
  · skip
    refine e_ic (nI 1) dX6_forge_14 (by decide) ?_
    refine e_putI (ci := 6) (k := 5) dX6_forge_15 fl_X6_40 rfl (fun q h => by cases h; rfl) ⟨rfl, rfl⟩ hX.1 ?_
    refine e_mem (m' := MM (sI m 125 X.1 (nI 1)) X (kf, vf, lf)) rfl ?_
    refine e_aload_n 0 dX6_forge_18 rfl ?_
    refine e_getIv (nI 1) dX6_forge_19 fl_X6_40 rfl hX.1 (by simp [gI, MM, sRI, sRL, sI, u2]) ?_
    refine e_if_le 27 dX6_forge_22 (by decide) (fun h => absurd h (by decide)) (fun _ => ?_)
    refine e_ic (nI 0) dX6_forge_25 (by decide) ?_
    exact e_retI dX6_forge_26 rfl rfl (bI_f h1) (by simp [fgK, h1])
  · skip
    obtain ⟨i, j, hi, hj, rfl, rfl⟩ := row_n hr hc h1
    have ci : (nI i).toNatClampNeg = i := nI_clamp (by omega)
    have cj : (nI j).toNatClampNeg = j := nI_clamp (by omega)
    refine e_ic (nI 0) dX6_forge_10 (by decide) ?_
    refine e_goto 15 dX6_forge_11 (by decide) ?_
    refine e_putI (ci := 6) (k := 5) dX6_forge_15 fl_X6_40 rfl (fun q h => by cases h; rfl) ⟨rfl, rfl⟩ hX.1 ?_
    refine e_mem (m' := MM (sI m 125 X.1 (nI 0)) X (kf, vf, lf)) rfl ?_
    refine e_aload_n 0 dX6_forge_18 rfl ?_
    refine e_getIv (nI 0) dX6_forge_19 fl_X6_40 rfl hX.1 (by simp [gI, MM, sRI, sRL, sI, u2]) ?_
    refine e_if_le 27 dX6_forge_22 (by decide) (fun _ => ?_) (fun h => absurd h (by decide))
    refine e_aload_n 0 dX6_forge_27 rfl ?_
    refine e_mk hX dX6_forge_28 fl_X6_8 ?_
    refine e_ldc dX6_forge_31 cs_X6_140 ?_
    refine e_iv (w := nI 62000) (by decide) ?_
    refine e_ic (nI 5) dX6_forge_33 (by decide) ?_
    refine e_iload_n 1 dX6_forge_34 rfl ?_
    refine e_imulN dX6_forge_35 ?_
    refine e_iaddN dX6_forge_36 ?_
    refine e_iload_n 2 dX6_forge_37 rfl ?_
    refine e_iaddN dX6_forge_38 ?_
    refine e_dup2 dX6_forge_39 rfl rfl ?_
    refine e_kld hX dX6_forge_40 (by omega) ?_
    refine e_iload_n 3 dX6_forge_41 rfl ?_
    refine e_iadd dX6_forge_42 ?_
    refine e_kst hX dX6_forge_43 (by omega) ?_
    refine e_ic (nI 1) dX6_forge_44 (by decide) ?_
    exact e_retI dX6_forge_45 rfl rfl (bI_t h1) (by simp [fgK, h1, ci, cj])
set_option maxRecDepth 100000 in
set_option maxHeartbeats 4000000 in
theorem m_checkedTo (hX : MW m X) : Ev G 0 uX6_checkedTo [.ref X.1] (MM m X (kf, vf, lf)) (some (.int (gI m 126 X.1))) (MM m X (kf, vf, lf)) := by
  refine Ev.of (by decide +kernel) (Nat.le_of_ble_eq_true rfl) ?_
  refine e_lvs (lv' := [(0, .ref X.1)]) rfl ?_
  refine e_aload_n 0 dX6_checkedTo_0 rfl ?_
  refine e_getIv (gI m 126 X.1) dX6_checkedTo_1 fl_X6_24 rfl hX.1 rfl ?_
  exact e_retI dX6_checkedTo_4 rfl rfl rfl
set_option maxRecDepth 100000 in
set_option maxHeartbeats 4000000 in
theorem m_status (hX : MW m X) : Ev G 0 uX6_status [.ref X.1] (MM m X (kf, vf, lf)) (some (.int (gI m 125 X.1))) (MM m X (kf, vf, lf)) := by
  refine Ev.of (by decide +kernel) (Nat.le_of_ble_eq_true rfl) ?_
  refine e_lvs (lv' := [(0, .ref X.1)]) rfl ?_
  refine e_aload_n 0 dX6_status_0 rfl ?_
  refine e_getIv (gI m 125 X.1) dX6_status_1 fl_X6_40 rfl hX.1 rfl ?_
  exact e_retI dX6_status_4 rfl rfl rfl
set_option maxRecDepth 100000 in
set_option maxHeartbeats 4000000 in
theorem m_payments (hX : MW m X) {u s : Nat} {ke : Int64} (hu : u < 200) (hs : s < 200) : Ev G 1 uX6_payments [.ref X.1, .int (nI u), .long ke, .int (nI s)] (MM m X (kf, vf, lf)) (some (.long (pmF kf vf u ke s))) (MM m X (kf, vf, lf)) := by
  refine Ev.of (by decide +kernel) (Nat.le_of_ble_eq_true rfl) ?_
  refine e_lvs (lv' := [(0, .ref X.1), (1, .int (nI u)), (2, .long ke), (4, .int (nI s))]) rfl ?_
  refine e_lload_n 2 dX6_payments_0 rfl ?_
  refine e_aload_n 0 dX6_payments_1 rfl ?_
  refine e_mv hX dX6_payments_2 fl_X6_14 ?_
  refine e_iload_n 1 dX6_payments_5 rfl ?_
  refine e_vld hX dX6_payments_6 (by omega) ?_
  refine e_lsub dX6_payments_7 ?_
  refine e_iload_n 1 dX6_payments_8 rfl ?_
  refine e_iload 3 dX6_payments_9 rfl ?_
  refine e_icmp_leN 18 dX6_payments_11 (by decide) (by omega) (by omega) (fun h1 => ?_) (fun h1 => ?_)
  · skip
    have h1' := Nat.not_lt.mpr h1
    refine e_ic (nI 1) dX6_payments_18 (by decide) ?_
    refine e_i2lN dX6_payments_19 (by omega) ?_
    refine e_ladd dX6_payments_20 ?_
    refine e_lstore (lv' := [(5, .long ((ke - (vf (u))) + (lN 1))), (0, .ref X.1), (1, .int (nI u)), (2, .long ke), (4, .int (nI s))]) dX6_payments_21 (by decide) rfl ?_
    refine e_lload 0 dX6_payments_23 rfl ?_
    refine e_lconst (v := lN 0) dX6_payments_25 (by decide) ?_
    refine e_lcmp dX6_payments_26 ?_
    refine e_lc_gt 32 dX6_payments_27 (by decide) (fun h2 => ?_) (fun h2 => ?_)
    · skip
      have h2' := Int64.not_le.mpr h2
      refine e_lload 0 dX6_payments_32 rfl ?_
      refine e_aload_n 1 dX6_payments_34 rfl ?_
      refine e_iload_n 2 dX6_payments_35 rfl ?_
      refine e_ic (nI 2) dX6_payments_36 (by decide) ?_
      refine e_callV (ci := 6) (st := [.long ((ke - (vf (u))) + (lN 1))]) (st1 := [.int (kg kf u 2), .long ((ke - (vf (u))) + (lN 1))]) (As := [.int (nI u), .int (nI 2)]) (m_get hX (kg_lt (by omega) (by omega))) dX6_payments_37 (by decide) cm_X6_get lk_X6_36 im_X6_get rfl sel_X6_get hX.1 rfl rfl (Nat.le_of_ble_eq_true rfl) rfl ?_
      refine e_i2l dX6_payments_40 ?_
      refine e_lmul dX6_payments_41 ?_
      refine e_aload_n 1 dX6_payments_42 rfl ?_
      refine e_iload_n 2 dX6_payments_43 rfl ?_
      refine e_ic (nI 3) dX6_payments_44 (by decide) ?_
      refine e_callV (ci := 6) (st := [.long (((ke - (vf (u))) + (lN 1)) * ((kg kf u 2).toInt64))]) (st1 := [.int (kg kf u 3), .long (((ke - (vf (u))) + (lN 1)) * ((kg kf u 2).toInt64))]) (As := [.int (nI u), .int (nI 3)]) (m_get hX (kg_lt (by omega) (by omega))) dX6_payments_45 (by decide) cm_X6_get lk_X6_36 im_X6_get rfl sel_X6_get hX.1 rfl rfl (Nat.le_of_ble_eq_true rfl) rfl ?_
      refine e_i2l dX6_payments_48 ?_
      refine e_lsub dX6_payments_49 ?_
      refine e_lstore (lv' := [(7, .long ((((ke - (vf (u))) + (lN 1)) * ((kg kf u 2).toInt64)) - ((kg kf u 3).toInt64))), (5, .long ((ke - (vf (u))) + (lN 1))), (0, .ref X.1), (1, .int (nI u)), (2, .long ke), (4, .int (nI s))]) dX6_payments_50 (by decide) rfl ?_
      refine e_lload 0 dX6_payments_52 rfl ?_
      refine e_lconst (v := lN 0) dX6_payments_54 (by decide) ?_
      refine e_lcmp dX6_payments_55 ?_
      refine e_lc_gt 63 dX6_payments_56 (by decide) (fun h3 => ?_) (fun h3 => ?_)
      · skip
        have h3' := Int64.not_le.mpr h3
        refine e_lload 0 dX6_payments_63 rfl ?_
        refine e_ldc2 dX6_payments_65 cs_X6_183 ?_
        refine e_lv (w := lN 999) (by decide) ?_
        refine e_ladd dX6_payments_68 ?_
        refine e_ldc2 dX6_payments_69 cs_X6_156 ?_
        refine e_lv (w := lN 1000) (by decide) ?_
        refine e_ldiv dX6_payments_72 (by decide) ?_
        exact e_retL dX6_payments_73 rfl (by simp [pmF, h1, h1', h2, h2', h3, h3']) rfl
      · skip
        have h3' := Int64.not_lt.mp h3
        refine e_lconst (v := lN 0) dX6_payments_59 (by decide) ?_
        refine e_goto 73 dX6_payments_60 (by decide) ?_
        exact e_retL dX6_payments_73 rfl (by simp [pmF, h1, h1', h2, h2', h3, h3']) rfl
    · skip
      have h2' := Int64.not_lt.mp h2
      refine e_lconst (v := lN 0) dX6_payments_30 (by decide) ?_
      exact e_retL dX6_payments_31 rfl (by simp [pmF, h1, h1', h2, h2']) rfl
  · skip
    have h1' := Nat.not_le.mpr h1
    refine e_ic (nI 0) dX6_payments_14 (by decide) ?_
    refine e_goto 19 dX6_payments_15 (by decide) ?_
    refine e_i2lN dX6_payments_19 (by omega) ?_
    refine e_ladd dX6_payments_20 ?_
    refine e_lstore (lv' := [(5, .long ((ke - (vf (u))) + (lN 0))), (0, .ref X.1), (1, .int (nI u)), (2, .long ke), (4, .int (nI s))]) dX6_payments_21 (by decide) rfl ?_
    refine e_lload 0 dX6_payments_23 rfl ?_
    refine e_lconst (v := lN 0) dX6_payments_25 (by decide) ?_
    refine e_lcmp dX6_payments_26 ?_
    refine e_lc_gt 32 dX6_payments_27 (by decide) (fun h4 => ?_) (fun h4 => ?_)
    · skip
      have h4' := Int64.not_le.mpr h4
      refine e_lload 0 dX6_payments_32 rfl ?_
      refine e_aload_n 1 dX6_payments_34 rfl ?_
      refine e_iload_n 2 dX6_payments_35 rfl ?_
      refine e_ic (nI 2) dX6_payments_36 (by decide) ?_
      refine e_callV (ci := 6) (st := [.long ((ke - (vf (u))) + (lN 0))]) (st1 := [.int (kg kf u 2), .long ((ke - (vf (u))) + (lN 0))]) (As := [.int (nI u), .int (nI 2)]) (m_get hX (kg_lt (by omega) (by omega))) dX6_payments_37 (by decide) cm_X6_get lk_X6_36 im_X6_get rfl sel_X6_get hX.1 rfl rfl (Nat.le_of_ble_eq_true rfl) rfl ?_
      refine e_i2l dX6_payments_40 ?_
      refine e_lmul dX6_payments_41 ?_
      refine e_aload_n 1 dX6_payments_42 rfl ?_
      refine e_iload_n 2 dX6_payments_43 rfl ?_
      refine e_ic (nI 3) dX6_payments_44 (by decide) ?_
      refine e_callV (ci := 6) (st := [.long (((ke - (vf (u))) + (lN 0)) * ((kg kf u 2).toInt64))]) (st1 := [.int (kg kf u 3), .long (((ke - (vf (u))) + (lN 0)) * ((kg kf u 2).toInt64))]) (As := [.int (nI u), .int (nI 3)]) (m_get hX (kg_lt (by omega) (by omega))) dX6_payments_45 (by decide) cm_X6_get lk_X6_36 im_X6_get rfl sel_X6_get hX.1 rfl rfl (Nat.le_of_ble_eq_true rfl) rfl ?_
      refine e_i2l dX6_payments_48 ?_
      refine e_lsub dX6_payments_49 ?_
      refine e_lstore (lv' := [(7, .long ((((ke - (vf (u))) + (lN 0)) * ((kg kf u 2).toInt64)) - ((kg kf u 3).toInt64))), (5, .long ((ke - (vf (u))) + (lN 0))), (0, .ref X.1), (1, .int (nI u)), (2, .long ke), (4, .int (nI s))]) dX6_payments_50 (by decide) rfl ?_
      refine e_lload 0 dX6_payments_52 rfl ?_
      refine e_lconst (v := lN 0) dX6_payments_54 (by decide) ?_
      refine e_lcmp dX6_payments_55 ?_
      refine e_lc_gt 63 dX6_payments_56 (by decide) (fun h5 => ?_) (fun h5 => ?_)
      · skip
        have h5' := Int64.not_le.mpr h5
        refine e_lload 0 dX6_payments_63 rfl ?_
        refine e_ldc2 dX6_payments_65 cs_X6_183 ?_
        refine e_lv (w := lN 999) (by decide) ?_
        refine e_ladd dX6_payments_68 ?_
        refine e_ldc2 dX6_payments_69 cs_X6_156 ?_
        refine e_lv (w := lN 1000) (by decide) ?_
        refine e_ldiv dX6_payments_72 (by decide) ?_
        exact e_retL dX6_payments_73 rfl (by simp [pmF, h1, h1', h4, h4', h5, h5']) rfl
      · skip
        have h5' := Int64.not_lt.mp h5
        refine e_lconst (v := lN 0) dX6_payments_59 (by decide) ?_
        refine e_goto 73 dX6_payments_60 (by decide) ?_
        exact e_retL dX6_payments_73 rfl (by simp [pmF, h1, h1', h4, h4', h5, h5']) rfl
    · skip
      have h4' := Int64.not_lt.mp h4
      refine e_lconst (v := lN 0) dX6_payments_30 (by decide) ?_
      exact e_retL dX6_payments_31 rfl (by simp [pmF, h1, h1', h4, h4']) rfl
end Model7
