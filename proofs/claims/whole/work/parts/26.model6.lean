/-! the reference: share, deadline, task, program -/
section Model6
variable {G : GG} {m : Mem} {X : XX} {kf : KF} {vf : VF} {lf : Nat → Int32}
set_option maxRecDepth 100000 in
set_option maxHeartbeats 4000000 in
theorem m_isLiving (hX : MW m X) {n : Nat} {t : Int32} (hn : kf 1 = nI n) (hn2 : n ≤ 200) : Ev G 2 uX6_isLiving [.ref X.1, .int t] (MM m X (kf, vf, lf)) (some (.int (bI (lvg kf t)))) (MM m X (kf, vf, lf)) := by
  refine Ev.of (by decide +kernel) (Nat.le_of_ble_eq_true rfl) ?_
  refine e_lvs (lv' := [(0, .ref X.1), (1, .int t)]) rfl ?_
  refine e_aload_n 0 dX6_isLiving_0 rfl ?_
  refine e_iload_n 1 dX6_isLiving_1 rfl ?_
  refine e_callV (ci := 6) (st := []) (st1 := [.int (bI (tIn kf t))]) (As := [.int t]) (m_isTask hX) dX6_isLiving_2 (by decide) cm_X6_isTask lk_X6_158 im_X6_isTask rfl sel_X6_isTask hX.1 rfl rfl (Nat.le_of_ble_eq_true rfl) rfl ?_
  refine e_if_eqB 23 dX6_isLiving_5 (by decide) (fun h1 => ?_) (fun h1 => ?_)
  · skip
    refine e_ic (nI 0) dX6_isLiving_23 (by decide) ?_
    exact e_retI dX6_isLiving_24 rfl rfl (bI_f (by simp [lvg, h1])) rfl
  · skip
    obtain ⟨j, hj, rfl⟩ := tIn_n hn hn2 h1
    have cj : (nI j).toNatClampNeg = j := nI_clamp (by omega)
    refine e_aload_n 0 dX6_isLiving_8 rfl ?_
    refine e_iload_n 1 dX6_isLiving_9 rfl ?_
    refine e_bipush (v := nI 6) dX6_isLiving_10 (by decide) ?_
    refine e_callV (ci := 6) (st := []) (st1 := [.int (kg kf j 6)]) (As := [.int (nI j), .int (nI 6)]) (m_get hX (kg_lt (by omega) (by omega))) dX6_isLiving_12 (by decide) cm_X6_get lk_X6_36 im_X6_get rfl sel_X6_get hX.1 rfl rfl (Nat.le_of_ble_eq_true rfl) rfl ?_
    refine e_ic (nI 4) dX6_isLiving_15 (by decide) ?_
    refine e_iv (w := 4) rfl ?_
    refine e_icmp_eq 23 dX6_isLiving_16 (by decide) (fun h2 => ?_) (fun h2 => ?_)
    · skip
      refine e_ic (nI 0) dX6_isLiving_23 (by decide) ?_
      exact e_retI dX6_isLiving_24 rfl rfl (bI_f (by simp [lvg, h1, cj, h2])) rfl
    · skip
      refine e_ic (nI 1) dX6_isLiving_19 (by decide) ?_
      refine e_goto 24 dX6_isLiving_20 (by decide) ?_
      exact e_retI dX6_isLiving_24 rfl rfl (bI_t (by simp [lvg, h1, cj, h2])) rfl
set_option maxRecDepth 100000 in
set_option maxHeartbeats 4000000 in
theorem m_share (hX : MW m X) {n : Nat} (hn : kf 1 = nI n) (hn2 : n ≤ 200) {t s : Int32} : Ev G 3 uX6_share [.ref X.1, .int t, .int s] (MM m X (kf, vf, lf)) (some (.int (shareR kf t s))) (MM (sI m 125 X.1 (rfs kf (whyShare kf t s))) X (shareK kf t s, vf, lf)) := by
  refine Ev.of (by decide +kernel) (Nat.le_of_ble_eq_true rfl) ?_
  refine e_lvs (lv' := [(0, .ref X.1), (1, .int t), (2, .int s)]) rfl ?_
  refine e_aload_n 0 dX6_share_0 rfl ?_
  refine e_aload_n 0 dX6_share_1 rfl ?_
  refine e_iload_n 1 dX6_share_2 rfl ?_
  refine e_callV (ci := 6) (st := [.ref X.1]) (st1 := [.int (bI (lvg kf t)), .ref X.1]) (As := [.int t]) (m_isLiving hX hn hn2) dX6_share_3 (by decide) cm_X6_isLiving lk_X6_161 im_X6_isLiving rfl sel_X6_isLiving hX.1 rfl rfl (Nat.le_of_ble_eq_true rfl) rfl ?_
  refine e_if_neB 13 dX6_share_6 (by decide) (fun h1 => ?_) (fun h1 => ?_)
  · skip
    obtain ⟨j, hj, rfl, hj4⟩ := lvg_n hn hn2 h1
    have cj : (nI j).toNatClampNeg = j := nI_clamp (by omega)
    refine e_iload_n 2 dX6_share_13 rfl ?_
    refine e_i2l dX6_share_14 ?_
    refine e_lconst (v := lN 1) dX6_share_15 (by decide) ?_
    refine e_ldc2 dX6_share_16 cs_X6_156 ?_
    refine e_lv (w := lN 1000) (by decide) ?_
    refine e_callS (st := [.ref X.1]) (st1 := [.int (bI (inI s (nI 1) (nI 1000))), .ref X.1]) (As := [.long s.toInt64, .long (lN 1), .long (lN 1000)]) (m_isInI (x := s) (lo := (nI 1)) (hi := (nI 1000)) rfl ((nI_l (by omega)).symm) ((nI_l (by omega)).symm) _) dX6_share_19 (by decide) cm_X6_isIn lk_X6_32 sm_X6_isIn rfl rfl (Nat.le_of_ble_eq_true rfl) rfl ?_
    refine e_if_neB 29 dX6_share_22 (by decide) (fun h2 => ?_) (fun h2 => ?_)
    · skip
      refine e_ic (nI 0) dX6_share_29 (by decide) ?_
      refine e_callV (ci := 6) (st := []) (st1 := [.int (bI (rfB kf (nI 0)))]) (As := [.int (nI 0)]) (m_isRefused hX) dX6_share_30 (by decide) cm_X6_isRefused lk_X6_153 im_X6_isRefused rfl sel_X6_isRefused hX.1 rfl rfl (Nat.le_of_ble_eq_true rfl) rfl ?_
      have hX := MW.s (f := 125) (a := X.1) (x := rfs kf (nI 0)) hX
      have e : whyShare kf (nI j) s = nI 0 := by simp [whyShare, h1, h2, cj]
      refine e_if_eqB 38 dX6_share_33 (by decide) (fun hB => ?_) (fun hB => ?_)
      · skip
        refine e_aload_n 0 dX6_share_38 rfl ?_
        refine e_iload_n 1 dX6_share_39 rfl ?_
        refine e_ic (nI 2) dX6_share_40 (by decide) ?_
        refine e_callV (ci := 6) (st := []) (st1 := [.int (kg (rfK kf (nI 0)) j 2)]) (As := [.int (nI j), .int (nI 2)]) (m_get hX (kg_lt (by omega) (by omega))) dX6_share_41 (by decide) cm_X6_get lk_X6_36 im_X6_get rfl sel_X6_get hX.1 rfl rfl (Nat.le_of_ble_eq_true rfl) rfl ?_
        refine e_istore_n (lv' := [(3, .int (kg (rfK kf (nI 0)) j 2)), (0, .ref X.1), (1, .int (nI j)), (2, .int s)]) dX6_share_44 (by decide) rfl ?_
        refine e_aload_n 1 dX6_share_45 rfl ?_
        refine e_iload_n 2 dX6_share_46 rfl ?_
        refine e_ic (nI 2) dX6_share_47 (by decide) ?_
        refine e_iload_n 3 dX6_share_48 rfl ?_
        refine e_callV (ci := 6) (st := []) (st1 := []) (As := [.int (nI j), .int (nI 2), .int s]) (m_set hX (kg_lt (by omega) (by decide))) dX6_share_49 (by decide) cm_X6_set lk_X6_59 im_X6_set rfl sel_X6_set hX.1 rfl rfl (Nat.le_of_ble_eq_true rfl) rfl ?_
        refine e_aload_n 1 dX6_share_52 rfl ?_
        refine e_iload_n 2 dX6_share_53 rfl ?_
        refine e_ic (nI 3) dX6_share_54 (by decide) ?_
        refine e_aload_n 1 dX6_share_55 rfl ?_
        refine e_iload_n 2 dX6_share_56 rfl ?_
        refine e_ic (nI 3) dX6_share_57 (by decide) ?_
        refine e_callV (ci := 6) (st := [.int (nI 3), .int (nI j), .ref X.1]) (st1 := [.int (kg (ks (rfK kf (nI 0)) j 2 s) j 3), .int (nI 3), .int (nI j), .ref X.1]) (As := [.int (nI j), .int (nI 3)]) (m_get hX (kg_lt (by omega) (by omega))) dX6_share_58 (by decide) cm_X6_get lk_X6_36 im_X6_get rfl sel_X6_get hX.1 rfl rfl (Nat.le_of_ble_eq_true rfl) rfl ?_
        refine e_iload_n 3 dX6_share_61 rfl ?_
        refine e_ic (nI 1) dX6_share_62 (by decide) ?_
        refine e_isub dX6_share_63 ?_
        refine e_jmin dX6_share_64 lkm_X6_164 (Nat.le_of_ble_eq_true rfl) ?_
        refine e_callV (ci := 6) (st := []) (st1 := []) (As := [.int (nI j), .int (nI 3), .int (mnI (kg (ks (rfK kf (nI 0)) j 2 s) j 3) (s - (nI 1)))]) (m_set hX (kg_lt (by omega) (by decide))) dX6_share_67 (by decide) cm_X6_set lk_X6_59 im_X6_set rfl sel_X6_set hX.1 rfl rfl (Nat.le_of_ble_eq_true rfl) rfl ?_
        refine e_iload_n 0 dX6_share_70 rfl ?_
        exact e_retI dX6_share_71 rfl rfl (by rw [shareR, e, if_neg (by rw [hB]; decide)]; rw [cj, kg_rfK]) (by rw [shareK, e, if_neg (by rw [hB]; decide)]; rw [cj])
      · skip
        refine e_ic ((-1)) dX6_share_36 (by decide) ?_
        exact e_retI dX6_share_37 rfl rfl (by rw [shareR, e, if_pos hB]) (by rw [shareK, e, if_pos hB])
    · skip
      refine e_ic (nI 1) dX6_share_25 (by decide) ?_
      refine e_goto 30 dX6_share_26 (by decide) ?_
      refine e_callV (ci := 6) (st := []) (st1 := [.int (bI (rfB kf (nI 1)))]) (As := [.int (nI 1)]) (m_isRefused hX) dX6_share_30 (by decide) cm_X6_isRefused lk_X6_153 im_X6_isRefused rfl sel_X6_isRefused hX.1 rfl rfl (Nat.le_of_ble_eq_true rfl) rfl ?_
      have hB : rfB kf (nI 1) = true := rfB_pos (by decide)
      have hX := MW.s (f := 125) (a := X.1) (x := rfs kf (nI 1)) hX
      have e : whyShare kf (nI j) s = nI 1 := by simp [whyShare, h1, h2, cj]
      refine e_if_eqB 38 dX6_share_33 (by decide) (fun h => absurd h (by rw [hB]; decide)) (fun _ => ?_)
      refine e_ic ((-1)) dX6_share_36 (by decide) ?_
      exact e_retI dX6_share_37 rfl rfl (by rw [shareR, e, if_pos hB]) (by rw [shareK, e, if_pos hB])
  · skip
    refine e_ic (nI 3) dX6_share_9 (by decide) ?_
    refine e_goto 30 dX6_share_10 (by decide) ?_
    refine e_callV (ci := 6) (st := []) (st1 := [.int (bI (rfB kf (nI 3)))]) (As := [.int (nI 3)]) (m_isRefused hX) dX6_share_30 (by decide) cm_X6_isRefused lk_X6_153 im_X6_isRefused rfl sel_X6_isRefused hX.1 rfl rfl (Nat.le_of_ble_eq_true rfl) rfl ?_
    have hB : rfB kf (nI 3) = true := rfB_pos (by decide)
    have hX := MW.s (f := 125) (a := X.1) (x := rfs kf (nI 3)) hX
    have e : whyShare kf t s = nI 3 := by simp [whyShare, h1]
    refine e_if_eqB 38 dX6_share_33 (by decide) (fun h => absurd h (by rw [hB]; decide)) (fun _ => ?_)
    refine e_ic ((-1)) dX6_share_36 (by decide) ?_
    exact e_retI dX6_share_37 rfl rfl (by rw [shareR, e, if_pos hB]) (by rw [shareK, e, if_pos hB])
set_option maxRecDepth 100000 in
set_option maxHeartbeats 4000000 in
theorem m_deadline (hX : MW m X) {n : Nat} (hn : kf 1 = nI n) (hn2 : n ≤ 200) {t p b : Int32} : Ev G 3 uX6_deadline [.ref X.1, .int t, .int p, .int b] (MM m X (kf, vf, lf)) (some (.int (bI (!rfB kf (whyDead kf t p b))))) (MM (sI m 125 X.1 (rfs kf (whyDead kf t p b))) X (deadK kf t p b, vf, lf)) := by
  refine Ev.of (by decide +kernel) (Nat.le_of_ble_eq_true rfl) ?_
  refine e_lvs (lv' := [(0, .ref X.1), (1, .int t), (2, .int p), (3, .int b)]) rfl ?_
  refine e_iload_n 2 dX6_deadline_0 rfl ?_
  refine e_i2l dX6_deadline_1 ?_
  refine e_lconst (v := lN 1) dX6_deadline_2 (by decide) ?_
  refine e_ldc2 dX6_deadline_3 cs_X6_156 ?_
  refine e_lv (w := lN 1000) (by decide) ?_
  refine e_callS (st := []) (st1 := [.int (bI (inI p (nI 1) (nI 1000)))]) (As := [.long p.toInt64, .long (lN 1), .long (lN 1000)]) (m_isInI (x := p) (lo := (nI 1)) (hi := (nI 1000)) rfl ((nI_l (by omega)).symm) ((nI_l (by omega)).symm) _) dX6_deadline_6 (by decide) cm_X6_isIn lk_X6_32 sm_X6_isIn rfl rfl (Nat.le_of_ble_eq_true rfl) rfl ?_
  refine e_if_eqB 27 dX6_deadline_9 (by decide) (fun h1 => ?_) (fun h1 => ?_)
  · skip
    refine e_ic (nI 0) dX6_deadline_27 (by decide) ?_
    refine e_istore (lv' := [(4, .int (nI 0)), (0, .ref X.1), (1, .int t), (2, .int p), (3, .int b)]) dX6_deadline_28 (by decide) rfl ?_
    refine e_aload_n 1 dX6_deadline_30 rfl ?_
    refine e_aload_n 1 dX6_deadline_31 rfl ?_
    refine e_iload_n 2 dX6_deadline_32 rfl ?_
    refine e_callV (ci := 6) (st := [.ref X.1]) (st1 := [.int (bI (lvg kf t)), .ref X.1]) (As := [.int t]) (m_isLiving hX hn hn2) dX6_deadline_33 (by decide) cm_X6_isLiving lk_X6_161 im_X6_isLiving rfl sel_X6_isLiving hX.1 rfl rfl (Nat.le_of_ble_eq_true rfl) rfl ?_
    refine e_if_neB 43 dX6_deadline_36 (by decide) (fun h2 => ?_) (fun h2 => ?_)
    · skip
      obtain ⟨j, hj, rfl, hj4⟩ := lvg_n hn hn2 h2
      have cj : (nI j).toNatClampNeg = j := nI_clamp (by omega)
      refine e_aload_n 1 dX6_deadline_43 rfl ?_
      refine e_iload_n 2 dX6_deadline_44 rfl ?_
      refine e_callV (ci := 6) (st := [.ref X.1]) (st1 := [.int (bI (isDue kf j)), .ref X.1]) (As := [.int (nI j)]) (m_isDue hX (by omega)) dX6_deadline_45 (by decide) cm_X6_isDue lk_X6_43 im_X6_isDue rfl sel_X6_isDue hX.1 rfl rfl (Nat.le_of_ble_eq_true rfl) rfl ?_
      refine e_if_neB 55 dX6_deadline_48 (by decide) (fun h3 => ?_) (fun h3 => ?_)
      · skip
        refine e_iload 0 dX6_deadline_55 rfl ?_
        refine e_if_ne 64 dX6_deadline_57 (by decide) (fun h => absurd h (by decide)) (fun _ => ?_)
        refine e_ic (nI 1) dX6_deadline_60 (by decide) ?_
        refine e_goto 65 dX6_deadline_61 (by decide) ?_
        refine e_callV (ci := 6) (st := []) (st1 := [.int (bI (rfB kf (nI 1)))]) (As := [.int (nI 1)]) (m_isRefused hX) dX6_deadline_65 (by decide) cm_X6_isRefused lk_X6_153 im_X6_isRefused rfl sel_X6_isRefused hX.1 rfl rfl (Nat.le_of_ble_eq_true rfl) rfl ?_
        have hB : rfB kf (nI 1) = true := rfB_pos (by decide)
        have hX := MW.s (f := 125) (a := X.1) (x := rfs kf (nI 1)) hX
        have e : whyDead kf (nI j) p b = nI 1 := by simp [whyDead, h1, h2, h3, cj]
        refine e_if_eqB 73 dX6_deadline_68 (by decide) (fun h => absurd h (by rw [hB]; decide)) (fun _ => ?_)
        refine e_ic (nI 0) dX6_deadline_71 (by decide) ?_
        exact e_retI dX6_deadline_72 rfl rfl (by rw [e, hB]; rfl) (by rw [deadK, e, if_pos hB])
      · skip
        refine e_ic (nI 4) dX6_deadline_51 (by decide) ?_
        refine e_goto 65 dX6_deadline_52 (by decide) ?_
        refine e_callV (ci := 6) (st := []) (st1 := [.int (bI (rfB kf (nI 4)))]) (As := [.int (nI 4)]) (m_isRefused hX) dX6_deadline_65 (by decide) cm_X6_isRefused lk_X6_153 im_X6_isRefused rfl sel_X6_isRefused hX.1 rfl rfl (Nat.le_of_ble_eq_true rfl) rfl ?_
        have hB : rfB kf (nI 4) = true := rfB_pos (by decide)
        have hX := MW.s (f := 125) (a := X.1) (x := rfs kf (nI 4)) hX
        have e : whyDead kf (nI j) p b = nI 4 := by simp [whyDead, h1, h2, h3, cj]
        refine e_if_eqB 73 dX6_deadline_68 (by decide) (fun h => absurd h (by rw [hB]; decide)) (fun _ => ?_)
        refine e_ic (nI 0) dX6_deadline_71 (by decide) ?_
        exact e_retI dX6_deadline_72 rfl rfl (by rw [e, hB]; rfl) (by rw [deadK, e, if_pos hB])
    · skip
      refine e_ic (nI 3) dX6_deadline_39 (by decide) ?_
      refine e_goto 65 dX6_deadline_40 (by decide) ?_
      refine e_callV (ci := 6) (st := []) (st1 := [.int (bI (rfB kf (nI 3)))]) (As := [.int (nI 3)]) (m_isRefused hX) dX6_deadline_65 (by decide) cm_X6_isRefused lk_X6_153 im_X6_isRefused rfl sel_X6_isRefused hX.1 rfl rfl (Nat.le_of_ble_eq_true rfl) rfl ?_
      have hB : rfB kf (nI 3) = true := rfB_pos (by decide)
      have hX := MW.s (f := 125) (a := X.1) (x := rfs kf (nI 3)) hX
      have e : whyDead kf t p b = nI 3 := by simp [whyDead, h1, h2]
      refine e_if_eqB 73 dX6_deadline_68 (by decide) (fun h => absurd h (by rw [hB]; decide)) (fun _ => ?_)
      refine e_ic (nI 0) dX6_deadline_71 (by decide) ?_
      exact e_retI dX6_deadline_72 rfl rfl (by rw [e, hB]; rfl) (by rw [deadK, e, if_pos hB])
  · skip
    refine e_iload_n 3 dX6_deadline_12 rfl ?_
    refine e_i2l dX6_deadline_13 ?_
    refine e_lconst (v := lN 0) dX6_deadline_14 (by decide) ?_
    refine e_iload_n 2 dX6_deadline_15 rfl ?_
    refine e_i2l dX6_deadline_16 ?_
    refine e_callS (st := []) (st1 := [.int (bI (inI b (nI 0) p))]) (As := [.long b.toInt64, .long (lN 0), .long p.toInt64]) (m_isInI (x := b) (lo := (nI 0)) (hi := p) rfl ((nI_l (by omega)).symm) rfl _) dX6_deadline_17 (by decide) cm_X6_isIn lk_X6_32 sm_X6_isIn rfl rfl (Nat.le_of_ble_eq_true rfl) rfl ?_
    refine e_if_eqB 27 dX6_deadline_20 (by decide) (fun h4 => ?_) (fun h4 => ?_)
    · skip
      refine e_ic (nI 0) dX6_deadline_27 (by decide) ?_
      refine e_istore (lv' := [(4, .int (nI 0)), (0, .ref X.1), (1, .int t), (2, .int p), (3, .int b)]) dX6_deadline_28 (by decide) rfl ?_
      refine e_aload_n 1 dX6_deadline_30 rfl ?_
      refine e_aload_n 1 dX6_deadline_31 rfl ?_
      refine e_iload_n 2 dX6_deadline_32 rfl ?_
      refine e_callV (ci := 6) (st := [.ref X.1]) (st1 := [.int (bI (lvg kf t)), .ref X.1]) (As := [.int t]) (m_isLiving hX hn hn2) dX6_deadline_33 (by decide) cm_X6_isLiving lk_X6_161 im_X6_isLiving rfl sel_X6_isLiving hX.1 rfl rfl (Nat.le_of_ble_eq_true rfl) rfl ?_
      refine e_if_neB 43 dX6_deadline_36 (by decide) (fun h5 => ?_) (fun h5 => ?_)
      · skip
        obtain ⟨j, hj, rfl, hj4⟩ := lvg_n hn hn2 h5
        have cj : (nI j).toNatClampNeg = j := nI_clamp (by omega)
        refine e_aload_n 1 dX6_deadline_43 rfl ?_
        refine e_iload_n 2 dX6_deadline_44 rfl ?_
        refine e_callV (ci := 6) (st := [.ref X.1]) (st1 := [.int (bI (isDue kf j)), .ref X.1]) (As := [.int (nI j)]) (m_isDue hX (by omega)) dX6_deadline_45 (by decide) cm_X6_isDue lk_X6_43 im_X6_isDue rfl sel_X6_isDue hX.1 rfl rfl (Nat.le_of_ble_eq_true rfl) rfl ?_
        refine e_if_neB 55 dX6_deadline_48 (by decide) (fun h6 => ?_) (fun h6 => ?_)
        · skip
          refine e_iload 0 dX6_deadline_55 rfl ?_
          refine e_if_ne 64 dX6_deadline_57 (by decide) (fun h => absurd h (by decide)) (fun _ => ?_)
          refine e_ic (nI 1) dX6_deadline_60 (by decide) ?_
          refine e_goto 65 dX6_deadline_61 (by decide) ?_
          refine e_callV (ci := 6) (st := []) (st1 := [.int (bI (rfB kf (nI 1)))]) (As := [.int (nI 1)]) (m_isRefused hX) dX6_deadline_65 (by decide) cm_X6_isRefused lk_X6_153 im_X6_isRefused rfl sel_X6_isRefused hX.1 rfl rfl (Nat.le_of_ble_eq_true rfl) rfl ?_
          have hB : rfB kf (nI 1) = true := rfB_pos (by decide)
          have hX := MW.s (f := 125) (a := X.1) (x := rfs kf (nI 1)) hX
          have e : whyDead kf (nI j) p b = nI 1 := by simp [whyDead, h1, h4, h5, h6, cj]
          refine e_if_eqB 73 dX6_deadline_68 (by decide) (fun h => absurd h (by rw [hB]; decide)) (fun _ => ?_)
          refine e_ic (nI 0) dX6_deadline_71 (by decide) ?_
          exact e_retI dX6_deadline_72 rfl rfl (by rw [e, hB]; rfl) (by rw [deadK, e, if_pos hB])
        · skip
          refine e_ic (nI 4) dX6_deadline_51 (by decide) ?_
          refine e_goto 65 dX6_deadline_52 (by decide) ?_
          refine e_callV (ci := 6) (st := []) (st1 := [.int (bI (rfB kf (nI 4)))]) (As := [.int (nI 4)]) (m_isRefused hX) dX6_deadline_65 (by decide) cm_X6_isRefused lk_X6_153 im_X6_isRefused rfl sel_X6_isRefused hX.1 rfl rfl (Nat.le_of_ble_eq_true rfl) rfl ?_
          have hB : rfB kf (nI 4) = true := rfB_pos (by decide)
          have hX := MW.s (f := 125) (a := X.1) (x := rfs kf (nI 4)) hX
          have e : whyDead kf (nI j) p b = nI 4 := by simp [whyDead, h1, h4, h5, h6, cj]
          refine e_if_eqB 73 dX6_deadline_68 (by decide) (fun h => absurd h (by rw [hB]; decide)) (fun _ => ?_)
          refine e_ic (nI 0) dX6_deadline_71 (by decide) ?_
          exact e_retI dX6_deadline_72 rfl rfl (by rw [e, hB]; rfl) (by rw [deadK, e, if_pos hB])
      · skip
        refine e_ic (nI 3) dX6_deadline_39 (by decide) ?_
        refine e_goto 65 dX6_deadline_40 (by decide) ?_
        refine e_callV (ci := 6) (st := []) (st1 := [.int (bI (rfB kf (nI 3)))]) (As := [.int (nI 3)]) (m_isRefused hX) dX6_deadline_65 (by decide) cm_X6_isRefused lk_X6_153 im_X6_isRefused rfl sel_X6_isRefused hX.1 rfl rfl (Nat.le_of_ble_eq_true rfl) rfl ?_
        have hB : rfB kf (nI 3) = true := rfB_pos (by decide)
        have hX := MW.s (f := 125) (a := X.1) (x := rfs kf (nI 3)) hX
        have e : whyDead kf t p b = nI 3 := by simp [whyDead, h1, h4, h5]
        refine e_if_eqB 73 dX6_deadline_68 (by decide) (fun h => absurd h (by rw [hB]; decide)) (fun _ => ?_)
        refine e_ic (nI 0) dX6_deadline_71 (by decide) ?_
        exact e_retI dX6_deadline_72 rfl rfl (by rw [e, hB]; rfl) (by rw [deadK, e, if_pos hB])
    · skip
      refine e_ic (nI 1) dX6_deadline_23 (by decide) ?_
      refine e_goto 28 dX6_deadline_24 (by decide) ?_
      refine e_istore (lv' := [(4, .int (nI 1)), (0, .ref X.1), (1, .int t), (2, .int p), (3, .int b)]) dX6_deadline_28 (by decide) rfl ?_
      refine e_aload_n 1 dX6_deadline_30 rfl ?_
      refine e_aload_n 1 dX6_deadline_31 rfl ?_
      refine e_iload_n 2 dX6_deadline_32 rfl ?_
      refine e_callV (ci := 6) (st := [.ref X.1]) (st1 := [.int (bI (lvg kf t)), .ref X.1]) (As := [.int t]) (m_isLiving hX hn hn2) dX6_deadline_33 (by decide) cm_X6_isLiving lk_X6_161 im_X6_isLiving rfl sel_X6_isLiving hX.1 rfl rfl (Nat.le_of_ble_eq_true rfl) rfl ?_
      refine e_if_neB 43 dX6_deadline_36 (by decide) (fun h7 => ?_) (fun h7 => ?_)
      · skip
        obtain ⟨j, hj, rfl, hj4⟩ := lvg_n hn hn2 h7
        have cj : (nI j).toNatClampNeg = j := nI_clamp (by omega)
        refine e_aload_n 1 dX6_deadline_43 rfl ?_
        refine e_iload_n 2 dX6_deadline_44 rfl ?_
        refine e_callV (ci := 6) (st := [.ref X.1]) (st1 := [.int (bI (isDue kf j)), .ref X.1]) (As := [.int (nI j)]) (m_isDue hX (by omega)) dX6_deadline_45 (by decide) cm_X6_isDue lk_X6_43 im_X6_isDue rfl sel_X6_isDue hX.1 rfl rfl (Nat.le_of_ble_eq_true rfl) rfl ?_
        refine e_if_neB 55 dX6_deadline_48 (by decide) (fun h8 => ?_) (fun h8 => ?_)
        · skip
          refine e_iload 0 dX6_deadline_55 rfl ?_
          refine e_if_ne 64 dX6_deadline_57 (by decide) (fun _ => ?_) (fun h => absurd h (by decide))
          refine e_ic (nI 0) dX6_deadline_64 (by decide) ?_
          refine e_callV (ci := 6) (st := []) (st1 := [.int (bI (rfB kf (nI 0)))]) (As := [.int (nI 0)]) (m_isRefused hX) dX6_deadline_65 (by decide) cm_X6_isRefused lk_X6_153 im_X6_isRefused rfl sel_X6_isRefused hX.1 rfl rfl (Nat.le_of_ble_eq_true rfl) rfl ?_
          have hX := MW.s (f := 125) (a := X.1) (x := rfs kf (nI 0)) hX
          have e : whyDead kf (nI j) p b = nI 0 := by simp [whyDead, h1, h4, h7, h8, cj]
          refine e_if_eqB 73 dX6_deadline_68 (by decide) (fun hB => ?_) (fun hB => ?_)
          · skip
            refine e_aload_n 1 dX6_deadline_73 rfl ?_
            refine e_iload_n 2 dX6_deadline_74 rfl ?_
            refine e_bipush (v := nI 10) dX6_deadline_75 (by decide) ?_
            refine e_iload_n 3 dX6_deadline_77 rfl ?_
            refine e_callV (ci := 6) (st := []) (st1 := []) (As := [.int (nI j), .int (nI 10), .int p]) (m_set hX (kg_lt (by omega) (by decide))) dX6_deadline_78 (by decide) cm_X6_set lk_X6_59 im_X6_set rfl sel_X6_set hX.1 rfl rfl (Nat.le_of_ble_eq_true rfl) rfl ?_
            refine e_aload_n 1 dX6_deadline_81 rfl ?_
            refine e_iload_n 2 dX6_deadline_82 rfl ?_
            refine e_bipush (v := nI 11) dX6_deadline_83 (by decide) ?_
            refine e_iload_n 4 dX6_deadline_85 rfl ?_
            refine e_callV (ci := 6) (st := []) (st1 := []) (As := [.int (nI j), .int (nI 11), .int b]) (m_set hX (kg_lt (by omega) (by decide))) dX6_deadline_86 (by decide) cm_X6_set lk_X6_59 im_X6_set rfl sel_X6_set hX.1 rfl rfl (Nat.le_of_ble_eq_true rfl) rfl ?_
            refine e_aload_n 1 dX6_deadline_89 rfl ?_
            refine e_iload_n 2 dX6_deadline_90 rfl ?_
            refine e_bipush (v := nI 12) dX6_deadline_91 (by decide) ?_
            refine e_aload_n 1 dX6_deadline_93 rfl ?_
            refine e_mk hX dX6_deadline_94 fl_X6_8 ?_
            refine e_ic (nI 0) dX6_deadline_97 (by decide) ?_
            refine e_kld hX dX6_deadline_98 (by omega) ?_
            refine e_iload_n 3 dX6_deadline_99 rfl ?_
            refine e_iadd dX6_deadline_100 ?_
            refine e_callV (ci := 6) (st := []) (st1 := []) (As := [.int (nI j), .int (nI 12), .int (((ks (ks (rfK kf (nI 0)) j 10 p) j 11 b) (0)) + p)]) (m_set hX (kg_lt (by omega) (by decide))) dX6_deadline_101 (by decide) cm_X6_set lk_X6_59 im_X6_set rfl sel_X6_set hX.1 rfl rfl (Nat.le_of_ble_eq_true rfl) rfl ?_
            refine e_aload_n 1 dX6_deadline_104 rfl ?_
            refine e_iload_n 2 dX6_deadline_105 rfl ?_
            refine e_bipush (v := nI 13) dX6_deadline_106 (by decide) ?_
            refine e_iload_n 4 dX6_deadline_108 rfl ?_
            refine e_callV (ci := 6) (st := []) (st1 := []) (As := [.int (nI j), .int (nI 13), .int b]) (m_set hX (kg_lt (by omega) (by decide))) dX6_deadline_109 (by decide) cm_X6_set lk_X6_59 im_X6_set rfl sel_X6_set hX.1 rfl rfl (Nat.le_of_ble_eq_true rfl) rfl ?_
            refine e_ic (nI 1) dX6_deadline_112 (by decide) ?_
            exact e_retI dX6_deadline_113 rfl rfl (by rw [e, hB]; rfl) (by rw [deadK, e, if_neg (by rw [hB]; decide)]; rw [cj])
          · skip
            refine e_ic (nI 0) dX6_deadline_71 (by decide) ?_
            exact e_retI dX6_deadline_72 rfl rfl (by rw [e, hB]; rfl) (by rw [deadK, e, if_pos hB])
        · skip
          refine e_ic (nI 4) dX6_deadline_51 (by decide) ?_
          refine e_goto 65 dX6_deadline_52 (by decide) ?_
          refine e_callV (ci := 6) (st := []) (st1 := [.int (bI (rfB kf (nI 4)))]) (As := [.int (nI 4)]) (m_isRefused hX) dX6_deadline_65 (by decide) cm_X6_isRefused lk_X6_153 im_X6_isRefused rfl sel_X6_isRefused hX.1 rfl rfl (Nat.le_of_ble_eq_true rfl) rfl ?_
          have hB : rfB kf (nI 4) = true := rfB_pos (by decide)
          have hX := MW.s (f := 125) (a := X.1) (x := rfs kf (nI 4)) hX
          have e : whyDead kf (nI j) p b = nI 4 := by simp [whyDead, h1, h4, h7, h8, cj]
          refine e_if_eqB 73 dX6_deadline_68 (by decide) (fun h => absurd h (by rw [hB]; decide)) (fun _ => ?_)
          refine e_ic (nI 0) dX6_deadline_71 (by decide) ?_
          exact e_retI dX6_deadline_72 rfl rfl (by rw [e, hB]; rfl) (by rw [deadK, e, if_pos hB])
      · skip
        refine e_ic (nI 3) dX6_deadline_39 (by decide) ?_
        refine e_goto 65 dX6_deadline_40 (by decide) ?_
        refine e_callV (ci := 6) (st := []) (st1 := [.int (bI (rfB kf (nI 3)))]) (As := [.int (nI 3)]) (m_isRefused hX) dX6_deadline_65 (by decide) cm_X6_isRefused lk_X6_153 im_X6_isRefused rfl sel_X6_isRefused hX.1 rfl rfl (Nat.le_of_ble_eq_true rfl) rfl ?_
        have hB : rfB kf (nI 3) = true := rfB_pos (by decide)
        have hX := MW.s (f := 125) (a := X.1) (x := rfs kf (nI 3)) hX
        have e : whyDead kf t p b = nI 3 := by simp [whyDead, h1, h4, h7]
        refine e_if_eqB 73 dX6_deadline_68 (by decide) (fun h => absurd h (by rw [hB]; decide)) (fun _ => ?_)
        refine e_ic (nI 0) dX6_deadline_71 (by decide) ?_
        exact e_retI dX6_deadline_72 rfl rfl (by rw [e, hB]; rfl) (by rw [deadK, e, if_pos hB])
set_option maxRecDepth 100000 in
set_option maxHeartbeats 4000000 in
theorem m_task (hX : MW m X) {n : Nat} (hn : kf 1 = nI n) (hn2 : n ≤ 200) {k p s : Int32} : Ev G 2 uX6_task [.ref X.1, .int k, .int p, .int s] (MM m X (kf, vf, lf)) (some (.int (taskR kf k p s))) (MM (sI m 125 X.1 (rfs kf (whyTask kf k p s))) X (taskK kf k p s, taskV kf vf k p s, lf)) := by
  refine Ev.of (by decide +kernel) (Nat.le_of_ble_eq_true rfl) ?_
  refine e_lvs (lv' := [(0, .ref X.1), (1, .int k), (2, .int p), (3, .int s)]) rfl ?_
  refine e_iload_n 1 dX6_task_0 rfl ?_
  refine e_i2l dX6_task_1 ?_
  refine e_lconst (v := lN 0) dX6_task_2 (by decide) ?_
  refine e_ldc2 dX6_task_3 cs_X6_131 ?_
  refine e_lv (w := lN 4) (by decide) ?_
  refine e_callS (st := []) (st1 := [.int (bI (inI k (nI 0) (nI 4)))]) (As := [.long k.toInt64, .long (lN 0), .long (lN 4)]) (m_isInI (x := k) (lo := (nI 0)) (hi := (nI 4)) rfl ((nI_l (by omega)).symm) ((nI_l (by omega)).symm) _) dX6_task_6 (by decide) cm_X6_isIn lk_X6_32 sm_X6_isIn rfl rfl (Nat.le_of_ble_eq_true rfl) rfl ?_
  refine e_if_eqB 40 dX6_task_9 (by decide) (fun h1 => ?_) (fun h1 => ?_)
  · skip
    refine e_ic (nI 0) dX6_task_40 (by decide) ?_
    refine e_istore (lv' := [(4, .int (nI 0)), (0, .ref X.1), (1, .int k), (2, .int p), (3, .int s)]) dX6_task_41 (by decide) rfl ?_
    refine e_aload_n 1 dX6_task_43 rfl ?_
    refine e_iload 0 dX6_task_44 rfl ?_
    refine e_if_ne 53 dX6_task_46 (by decide) (fun h => absurd h (by decide)) (fun _ => ?_)
    refine e_ic (nI 1) dX6_task_49 (by decide) ?_
    refine e_goto 70 dX6_task_50 (by decide) ?_
    refine e_callV (ci := 6) (st := []) (st1 := [.int (bI (rfB kf (nI 1)))]) (As := [.int (nI 1)]) (m_isRefused hX) dX6_task_70 (by decide) cm_X6_isRefused lk_X6_153 im_X6_isRefused rfl sel_X6_isRefused hX.1 rfl rfl (Nat.le_of_ble_eq_true rfl) rfl ?_
    have hB : rfB kf (nI 1) = true := rfB_pos (by decide)
    have hX := MW.s (f := 125) (a := X.1) (x := rfs kf (nI 1)) hX
    have e : whyTask kf k p s = nI 1 := by simp [whyTask, h1]
    refine e_if_eqB 78 dX6_task_73 (by decide) (fun h => absurd h (by rw [hB]; decide)) (fun _ => ?_)
    refine e_ic ((-1)) dX6_task_76 (by decide) ?_
    exact e_retI dX6_task_77 rfl rfl (by rw [taskR, e, if_pos hB]) (by rw [taskK, taskV, e, if_pos hB, if_pos hB])
  · skip
    refine e_iload_n 2 dX6_task_12 rfl ?_
    refine e_i2l dX6_task_13 ?_
    refine e_lconst (v := lN 0) dX6_task_14 (by decide) ?_
    refine e_ldc2 dX6_task_15 cs_X6_125 ?_
    refine e_lv (w := lN 31) (by decide) ?_
    refine e_callS (st := []) (st1 := [.int (bI (inI p (nI 0) (nI 31)))]) (As := [.long p.toInt64, .long (lN 0), .long (lN 31)]) (m_isInI (x := p) (lo := (nI 0)) (hi := (nI 31)) rfl ((nI_l (by omega)).symm) ((nI_l (by omega)).symm) _) dX6_task_18 (by decide) cm_X6_isIn lk_X6_32 sm_X6_isIn rfl rfl (Nat.le_of_ble_eq_true rfl) rfl ?_
    refine e_if_eqB 40 dX6_task_21 (by decide) (fun h2 => ?_) (fun h2 => ?_)
    · skip
      refine e_ic (nI 0) dX6_task_40 (by decide) ?_
      refine e_istore (lv' := [(4, .int (nI 0)), (0, .ref X.1), (1, .int k), (2, .int p), (3, .int s)]) dX6_task_41 (by decide) rfl ?_
      refine e_aload_n 1 dX6_task_43 rfl ?_
      refine e_iload 0 dX6_task_44 rfl ?_
      refine e_if_ne 53 dX6_task_46 (by decide) (fun h => absurd h (by decide)) (fun _ => ?_)
      refine e_ic (nI 1) dX6_task_49 (by decide) ?_
      refine e_goto 70 dX6_task_50 (by decide) ?_
      refine e_callV (ci := 6) (st := []) (st1 := [.int (bI (rfB kf (nI 1)))]) (As := [.int (nI 1)]) (m_isRefused hX) dX6_task_70 (by decide) cm_X6_isRefused lk_X6_153 im_X6_isRefused rfl sel_X6_isRefused hX.1 rfl rfl (Nat.le_of_ble_eq_true rfl) rfl ?_
      have hB : rfB kf (nI 1) = true := rfB_pos (by decide)
      have hX := MW.s (f := 125) (a := X.1) (x := rfs kf (nI 1)) hX
      have e : whyTask kf k p s = nI 1 := by simp [whyTask, h1, h2]
      refine e_if_eqB 78 dX6_task_73 (by decide) (fun h => absurd h (by rw [hB]; decide)) (fun _ => ?_)
      refine e_ic ((-1)) dX6_task_76 (by decide) ?_
      exact e_retI dX6_task_77 rfl rfl (by rw [taskR, e, if_pos hB]) (by rw [taskK, taskV, e, if_pos hB, if_pos hB])
    · skip
      refine e_iload_n 3 dX6_task_24 rfl ?_
      refine e_i2l dX6_task_25 ?_
      refine e_lconst (v := lN 1) dX6_task_26 (by decide) ?_
      refine e_ldc2 dX6_task_27 cs_X6_156 ?_
      refine e_lv (w := lN 1000) (by decide) ?_
      refine e_callS (st := []) (st1 := [.int (bI (inI s (nI 1) (nI 1000)))]) (As := [.long s.toInt64, .long (lN 1), .long (lN 1000)]) (m_isInI (x := s) (lo := (nI 1)) (hi := (nI 1000)) rfl ((nI_l (by omega)).symm) ((nI_l (by omega)).symm) _) dX6_task_30 (by decide) cm_X6_isIn lk_X6_32 sm_X6_isIn rfl rfl (Nat.le_of_ble_eq_true rfl) rfl ?_
      refine e_if_eqB 40 dX6_task_33 (by decide) (fun h3 => ?_) (fun h3 => ?_)
      · skip
        refine e_ic (nI 0) dX6_task_40 (by decide) ?_
        refine e_istore (lv' := [(4, .int (nI 0)), (0, .ref X.1), (1, .int k), (2, .int p), (3, .int s)]) dX6_task_41 (by decide) rfl ?_
        refine e_aload_n 1 dX6_task_43 rfl ?_
        refine e_iload 0 dX6_task_44 rfl ?_
        refine e_if_ne 53 dX6_task_46 (by decide) (fun h => absurd h (by decide)) (fun _ => ?_)
        refine e_ic (nI 1) dX6_task_49 (by decide) ?_
        refine e_goto 70 dX6_task_50 (by decide) ?_
        refine e_callV (ci := 6) (st := []) (st1 := [.int (bI (rfB kf (nI 1)))]) (As := [.int (nI 1)]) (m_isRefused hX) dX6_task_70 (by decide) cm_X6_isRefused lk_X6_153 im_X6_isRefused rfl sel_X6_isRefused hX.1 rfl rfl (Nat.le_of_ble_eq_true rfl) rfl ?_
        have hB : rfB kf (nI 1) = true := rfB_pos (by decide)
        have hX := MW.s (f := 125) (a := X.1) (x := rfs kf (nI 1)) hX
        have e : whyTask kf k p s = nI 1 := by simp [whyTask, h1, h2, h3]
        refine e_if_eqB 78 dX6_task_73 (by decide) (fun h => absurd h (by rw [hB]; decide)) (fun _ => ?_)
        refine e_ic ((-1)) dX6_task_76 (by decide) ?_
        exact e_retI dX6_task_77 rfl rfl (by rw [taskR, e, if_pos hB]) (by rw [taskK, taskV, e, if_pos hB, if_pos hB])
      · skip
        refine e_ic (nI 1) dX6_task_36 (by decide) ?_
        refine e_goto 41 dX6_task_37 (by decide) ?_
        refine e_istore (lv' := [(4, .int (nI 1)), (0, .ref X.1), (1, .int k), (2, .int p), (3, .int s)]) dX6_task_41 (by decide) rfl ?_
        refine e_aload_n 1 dX6_task_43 rfl ?_
        refine e_iload 0 dX6_task_44 rfl ?_
        refine e_if_ne 53 dX6_task_46 (by decide) (fun _ => ?_) (fun h => absurd h (by decide))
        refine e_aload_n 1 dX6_task_53 rfl ?_
        refine e_mk hX dX6_task_54 fl_X6_8 ?_
        refine e_ic (nI 1) dX6_task_57 (by decide) ?_
        refine e_kld hX dX6_task_58 (by omega) ?_
        refine e_sipush (v := nI 200) dX6_task_59 (by decide) ?_
        refine e_iv (w := 200) rfl ?_
        refine e_icmp_ne 69 dX6_task_62 (by decide) (fun h4 => ?_) (fun h4 => ?_)
        · skip
          have hn3 : n < 200 := Nat.lt_of_le_of_ne hn2 (fun z => h4 (by rw [hn, z]; rfl))
          refine e_ic (nI 0) dX6_task_69 (by decide) ?_
          refine e_callV (ci := 6) (st := []) (st1 := [.int (bI (rfB kf (nI 0)))]) (As := [.int (nI 0)]) (m_isRefused hX) dX6_task_70 (by decide) cm_X6_isRefused lk_X6_153 im_X6_isRefused rfl sel_X6_isRefused hX.1 rfl rfl (Nat.le_of_ble_eq_true rfl) rfl ?_
          have hX := MW.s (f := 125) (a := X.1) (x := rfs kf (nI 0)) hX
          have e : whyTask kf k p s = nI 0 := by simp [whyTask, h1, h2, h3, h4]
          refine e_if_eqB 78 dX6_task_73 (by decide) (fun hB => ?_) (fun hB => ?_)
          · skip
            refine e_aload_n 1 dX6_task_78 rfl ?_
            refine e_iload_n 2 dX6_task_79 rfl ?_
            refine e_iload_n 3 dX6_task_80 rfl ?_
            refine e_iload_n 4 dX6_task_81 rfl ?_
            refine e_bipush (v := nI 100) dX6_task_82 (by decide) ?_
            refine e_ic (nI 0) dX6_task_84 (by decide) ?_
            refine e_callV (ci := 6) (st := []) (st1 := [.int (nI n)]) (As := [.int k, .int p, .int s, .int (nI 100), .int (nI 0)]) (m_added hX (n := n) (by rw [rfK_1 (by decide)]; exact hn) (by omega)) dX6_task_85 (by decide) cm_X6_added lk_X6_127 im_X6_added rfl sel_X6_added hX.1 rfl rfl (Nat.le_of_ble_eq_true rfl) rfl ?_
            exact e_retI dX6_task_88 rfl rfl (by rw [taskR, e, if_neg (by rw [hB]; decide), hn]) (by rw [taskK, taskV, e, if_neg (by rw [hB]; decide), if_neg (by rw [hB]; decide), nT_of hn hn2])
          · skip
            refine e_ic ((-1)) dX6_task_76 (by decide) ?_
            exact e_retI dX6_task_77 rfl rfl (by rw [taskR, e, if_pos hB]) (by rw [taskK, taskV, e, if_pos hB, if_pos hB])
        · skip
          refine e_ic (nI 2) dX6_task_65 (by decide) ?_
          refine e_goto 70 dX6_task_66 (by decide) ?_
          refine e_callV (ci := 6) (st := []) (st1 := [.int (bI (rfB kf (nI 2)))]) (As := [.int (nI 2)]) (m_isRefused hX) dX6_task_70 (by decide) cm_X6_isRefused lk_X6_153 im_X6_isRefused rfl sel_X6_isRefused hX.1 rfl rfl (Nat.le_of_ble_eq_true rfl) rfl ?_
          have hB : rfB kf (nI 2) = true := rfB_pos (by decide)
          have hX := MW.s (f := 125) (a := X.1) (x := rfs kf (nI 2)) hX
          have e : whyTask kf k p s = nI 2 := by simp [whyTask, h1, h2, h3, h4]
          refine e_if_eqB 78 dX6_task_73 (by decide) (fun h => absurd h (by rw [hB]; decide)) (fun _ => ?_)
          refine e_ic ((-1)) dX6_task_76 (by decide) ?_
          exact e_retI dX6_task_77 rfl rfl (by rw [taskR, e, if_pos hB]) (by rw [taskK, taskV, e, if_pos hB, if_pos hB])
end Model6
