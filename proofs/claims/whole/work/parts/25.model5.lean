/-! the reference: calls from outside that tell the kernel something -/
section Model5
variable {G : GG} {m : Mem} {X : XX} {kf : KF} {vf : VF} {lf : Nat → Int32}
theorem m_isInI {x lo hi : Int32} {A L H : Int64} (hx : A = x.toInt64) (hl : L = lo.toInt64) (hh : H = hi.toInt64) (m : Mem) : Ev G 0 uX6_isIn [.long A, .long L, .long H] m (some (.int (bI (inI x lo hi)))) m := by
  subst hx; subst hl; subst hh
  rw [← inL_I]
  exact m_isIn _ _ _ _
set_option maxRecDepth 100000 in
set_option maxHeartbeats 4000000 in
theorem m_isTask (hX : MW m X) {t : Int32} : Ev G 1 uX6_isTask [.ref X.1, .int t] (MM m X (kf, vf, lf)) (some (.int (bI (tIn kf t)))) (MM m X (kf, vf, lf)) := by
  refine Ev.of (by decide +kernel) (Nat.le_of_ble_eq_true rfl) ?_
  refine e_lvs (lv' := [(0, .ref X.1), (1, .int t)]) rfl ?_
  refine e_iload_n 1 dX6_isTask_0 rfl ?_
  refine e_i2l dX6_isTask_1 ?_
  refine e_lconst (v := lN 0) dX6_isTask_2 (by decide) ?_
  refine e_aload_n 0 dX6_isTask_3 rfl ?_
  refine e_mk hX dX6_isTask_4 fl_X6_8 ?_
  refine e_ic (nI 1) dX6_isTask_7 (by decide) ?_
  refine e_kld hX dX6_isTask_8 (by omega) ?_
  refine e_ic (nI 1) dX6_isTask_9 (by decide) ?_
  refine e_isub dX6_isTask_10 ?_
  refine e_i2l dX6_isTask_11 ?_
  refine e_callS (st := []) (st1 := [.int (bI (inI t (nI 0) ((kf (1)) - (nI 1))))]) (As := [.long t.toInt64, .long (lN 0), .long (((kf (1)) - (nI 1)).toInt64)]) (m_isInI (x := t) (lo := (nI 0)) (hi := ((kf (1)) - (nI 1))) rfl ((nI_l (by omega)).symm) rfl _) dX6_isTask_12 (by decide) cm_X6_isIn lk_X6_32 sm_X6_isIn rfl rfl (Nat.le_of_ble_eq_true rfl) rfl ?_
  exact e_retI dX6_isTask_15 rfl (bI_nar _) rfl
set_option maxRecDepth 100000 in
set_option maxHeartbeats 4000000 in
theorem m_isRefused (hX : MW m X) {why : Int32} : Ev G 0 uX6_isRefused [.ref X.1, .int why] (MM m X (kf, vf, lf)) (some (.int (bI (rfB kf why)))) (MM (sI m 125 X.1 (rfs kf why)) X (rfK kf why, vf, lf)) := by
  refine Ev.of (by decide +kernel) (Nat.le_of_ble_eq_true rfl) ?_
  refine e_lvs (lv' := [(0, .ref X.1), (1, .int why)]) rfl ?_
  refine e_aload_n 0 dX6_isRefused_0 rfl ?_
  refine e_iload_n 1 dX6_isRefused_1 rfl ?_
  refine e_if_le 9 dX6_isRefused_2 (by decide) (fun h1 => ?_) (fun h1 => ?_)
  · skip
    have h1' := Int32.not_lt.mpr h1
    refine e_aload_n 0 dX6_isRefused_9 rfl ?_
    refine e_mk hX dX6_isRefused_10 fl_X6_8 ?_
    refine e_bipush (v := nI 6) dX6_isRefused_13 (by decide) ?_
    refine e_kld hX dX6_isRefused_15 (by omega) ?_
    refine e_sipush (v := nI 1000) dX6_isRefused_16 (by decide) ?_
    refine e_iv (w := 1000) rfl ?_
    refine e_icmp_ne 26 dX6_isRefused_19 (by decide) (fun h2 => ?_) (fun h2 => ?_)
    · skip
      refine e_ic (nI 0) dX6_isRefused_26 (by decide) ?_
      refine e_putI (ci := 6) (k := 5) dX6_isRefused_27 fl_X6_40 rfl (fun q h => by cases h; rfl) ⟨rfl, rfl⟩ hX.1 ?_
      refine e_mem (m' := MM (sI m 125 X.1 (nI 0)) X (kf, vf, lf)) rfl ?_
      refine e_aload_n 0 dX6_isRefused_30 rfl ?_
      refine e_getIv (nI 0) dX6_isRefused_31 fl_X6_40 rfl hX.1 (by simp [gI, MM, sRI, sRL, sI, u2]) ?_
      refine e_if_ne 48 dX6_isRefused_34 (by decide) (fun h => absurd h (by decide)) (fun _ => ?_)
      refine e_aload_n 0 dX6_isRefused_37 rfl ?_
      refine e_mk hX dX6_isRefused_38 fl_X6_8 ?_
      refine e_bipush (v := nI 6) dX6_isRefused_41 (by decide) ?_
      refine e_dup2 dX6_isRefused_43 rfl rfl ?_
      refine e_kld hX dX6_isRefused_44 (by omega) ?_
      refine e_ic (nI 1) dX6_isRefused_45 (by decide) ?_
      refine e_iadd dX6_isRefused_46 ?_
      refine e_kst hX dX6_isRefused_47 (by omega) ?_
      refine e_aload_n 0 dX6_isRefused_48 rfl ?_
      refine e_getIv (nI 0) dX6_isRefused_49 fl_X6_40 rfl hX.1 (by simp [gI, MM, sRI, sRL, sI, u2]) ?_
      refine e_if_le 59 dX6_isRefused_52 (by decide) (fun _ => ?_) (fun h => absurd h (by decide))
      refine e_ic (nI 0) dX6_isRefused_59 (by decide) ?_
      have e0 : rfs kf why = nI 0 := by simp [rfs, h1', h2]; rfl
      exact e_retI dX6_isRefused_60 rfl rfl (bI_f (by unfold rfB; rw [e0]; decide)) (by rw [e0]; rw [rfK, if_pos (by rw [e0]; decide)])
    · skip
      refine e_ic (nI 5) dX6_isRefused_22 (by decide) ?_
      refine e_goto 27 dX6_isRefused_23 (by decide) ?_
      refine e_putI (ci := 6) (k := 5) dX6_isRefused_27 fl_X6_40 rfl (fun q h => by cases h; rfl) ⟨rfl, rfl⟩ hX.1 ?_
      refine e_mem (m' := MM (sI m 125 X.1 (nI 5)) X (kf, vf, lf)) rfl ?_
      refine e_aload_n 0 dX6_isRefused_30 rfl ?_
      refine e_getIv (nI 5) dX6_isRefused_31 fl_X6_40 rfl hX.1 (by simp [gI, MM, sRI, sRL, sI, u2]) ?_
      refine e_if_ne 48 dX6_isRefused_34 (by decide) (fun _ => ?_) (fun h => absurd h (by decide))
      refine e_aload_n 0 dX6_isRefused_48 rfl ?_
      refine e_getIv (nI 5) dX6_isRefused_49 fl_X6_40 rfl hX.1 (by simp [gI, MM, sRI, sRL, sI, u2]) ?_
      refine e_if_le 59 dX6_isRefused_52 (by decide) (fun h => absurd h (by decide)) (fun _ => ?_)
      refine e_ic (nI 1) dX6_isRefused_55 (by decide) ?_
      refine e_goto 60 dX6_isRefused_56 (by decide) ?_
      have e0 : rfs kf why = nI 5 := by simp [rfs, h1', h2]; rfl
      exact e_retI dX6_isRefused_60 rfl rfl (bI_t (by unfold rfB; rw [e0]; exact decide_eq_true (by decide))) (by rw [e0]; rw [rfK, if_neg (by rw [e0]; decide)])
  · skip
    have h1' := Int32.not_le.mp h1
    refine e_iload_n 1 dX6_isRefused_5 rfl ?_
    refine e_goto 27 dX6_isRefused_6 (by decide) ?_
    refine e_putI (ci := 6) (k := 5) dX6_isRefused_27 fl_X6_40 rfl (fun q h => by cases h; rfl) ⟨rfl, rfl⟩ hX.1 ?_
    refine e_mem (m' := MM (sI m 125 X.1 why) X (kf, vf, lf)) rfl ?_
    refine e_aload_n 0 dX6_isRefused_30 rfl ?_
    refine e_getIv (why) dX6_isRefused_31 fl_X6_40 rfl hX.1 (by simp [gI, MM, sRI, sRL, sI, u2]) ?_
    refine e_if_ne 48 dX6_isRefused_34 (by decide) (fun _ => ?_) (fun h => absurd h (fun z => absurd h1' (by rw [z]; decide)))
    refine e_aload_n 0 dX6_isRefused_48 rfl ?_
    refine e_getIv (why) dX6_isRefused_49 fl_X6_40 rfl hX.1 (by simp [gI, MM, sRI, sRL, sI, u2]) ?_
    refine e_if_le 59 dX6_isRefused_52 (by decide) (fun h => absurd h (h1)) (fun _ => ?_)
    refine e_ic (nI 1) dX6_isRefused_55 (by decide) ?_
    refine e_goto 60 dX6_isRefused_56 (by decide) ?_
    have e0 : rfs kf why = why := rf_pos h1'
    exact e_retI dX6_isRefused_60 rfl rfl (bI_t (by unfold rfB; rw [e0]; exact decide_eq_true (h1'))) (by rw [e0]; rw [rfK, if_neg (by rw [e0]; intro e; rw [e] at h1'; exact absurd h1' (by decide))])
theorem e_jmax {d : Nat} {u : MI} {z0 n0 : Nat} {r : Option Value} {mF : Mem} {pc i : Nat} {lv : List (Nat × Value)} {st : List Value} {x y : Int32} (hd : decode u.2.1 pc = .ok (.invokestatic i, 3)) (hl : Cond.methodLink u.1.cls i yJ9_max_7cf53 ∈ lw_g) (hw : (st.map fun v => v.category).sum ≤ 8) (k : EvB G d u z0 n0 r mF (pc + 3) lv (.int (mxI x y) :: st) m) : EvB G d u z0 n0 r mF pc lv (.int y :: .int x :: st) m :=
  ⟨k.1, fun p e R s q args below meth c Q F hR hQ hB h1 h2 H ls locs hr hls hL => by
    have hts := F.2.2.2.2.2.2.2.1
    obtain ⟨hR1, hR2, hR3, hR4⟩ := id hR
    have hk := k.1
    exact va_mmax F.1 F.2.1 (by rw [F.2.2.2.1]; exact hls.1.symm) F.2.2.2.2.2.1 (hts _ hl) (hts _ sm_J9_max_7cf53) (hts _ ini_J9) (hts _ code_J9_max_7cf53) (by omega) (by omega) (by omega) (by omega) hd (k.2 p e R s q args below meth c Q F hR hQ hB h1 h2 H ls locs hr hls hL)⟩
theorem e_jmin {d : Nat} {u : MI} {z0 n0 : Nat} {r : Option Value} {mF : Mem} {pc i : Nat} {lv : List (Nat × Value)} {st : List Value} {x y : Int32} (hd : decode u.2.1 pc = .ok (.invokestatic i, 3)) (hl : Cond.methodLink u.1.cls i yJ9_min_7cf53 ∈ lw_g) (hw : (st.map fun v => v.category).sum ≤ 8) (k : EvB G d u z0 n0 r mF (pc + 3) lv (.int (mnI x y) :: st) m) : EvB G d u z0 n0 r mF pc lv (.int y :: .int x :: st) m :=
  ⟨k.1, fun p e R s q args below meth c Q F hR hQ hB h1 h2 H ls locs hr hls hL => by
    have hts := F.2.2.2.2.2.2.2.1
    obtain ⟨hR1, hR2, hR3, hR4⟩ := id hR
    have hk := k.1
    exact va_mmin F.1 F.2.1 (by rw [F.2.2.2.1]; exact hls.1.symm) F.2.2.2.2.2.1 (hts _ hl) (hts _ sm_J9_min_7cf53) (hts _ ini_J9) (hts _ code_J9_min_7cf53) (by omega) (by omega) (by omega) (by omega) hd (k.2 p e R s q args below meth c Q F hR hQ hB h1 h2 H ls locs hr hls hL)⟩
theorem e_jmaxL {d : Nat} {u : MI} {z0 n0 : Nat} {r : Option Value} {mF : Mem} {pc i : Nat} {lv : List (Nat × Value)} {st : List Value} {x y : Int64} (hd : decode u.2.1 pc = .ok (.invokestatic i, 3)) (hl : Cond.methodLink u.1.cls i yJ9_max_f86c9 ∈ lw_g) (hw : (st.map fun v => v.category).sum ≤ 8) (k : EvB G d u z0 n0 r mF (pc + 3) lv (.long (mxL x y) :: st) m) : EvB G d u z0 n0 r mF pc lv (.long y :: .long x :: st) m :=
  ⟨k.1, fun p e R s q args below meth c Q F hR hQ hB h1 h2 H ls locs hr hls hL => by
    have hts := F.2.2.2.2.2.2.2.1
    obtain ⟨hR1, hR2, hR3, hR4⟩ := id hR
    have hk := k.1
    exact va_mmax_long F.1 F.2.1 (by rw [F.2.2.2.1]; exact hls.1.symm) F.2.2.2.2.2.1 (hts _ hl) (hts _ sm_J9_max_f86c9) (hts _ ini_J9) (hts _ code_J9_max_f86c9) (by omega) (by omega) (by omega) (by omega) hd (k.2 p e R s q args below meth c Q F hR hQ hB h1 h2 H ls locs hr hls hL)⟩
set_option maxRecDepth 100000 in
set_option maxHeartbeats 4000000 in
theorem m_lock (hX : MW m X) {l : Int32} : Ev G 1 uX6_lock [.ref X.1, .int l] (MM m X (kf, vf, lf)) (some (.int (bI (!rfB kf (whyLock kf l))))) (MM (sI m 125 X.1 (rfs kf (whyLock kf l))) X (lockK kf l, vf, lf)) := by
  refine Ev.of (by decide +kernel) (Nat.le_of_ble_eq_true rfl) ?_
  refine e_lvs (lv' := [(0, .ref X.1), (1, .int l)]) rfl ?_
  refine e_aload_n 0 dX6_lock_0 rfl ?_
  refine e_iload_n 1 dX6_lock_1 rfl ?_
  refine e_i2l dX6_lock_2 ?_
  refine e_lconst (v := lN 0) dX6_lock_3 (by decide) ?_
  refine e_ldc2 dX6_lock_4 cs_X6_118 ?_
  refine e_lv (w := lN 99) (by decide) ?_
  refine e_callS (st := [.ref X.1]) (st1 := [.int (bI (inI l (nI 0) (nI 99))), .ref X.1]) (As := [.long l.toInt64, .long (lN 0), .long (lN 99)]) (m_isInI (x := l) (lo := (nI 0)) (hi := (nI 99)) rfl ((nI_l (by omega)).symm) ((nI_l (by omega)).symm) _) dX6_lock_7 (by decide) cm_X6_isIn lk_X6_32 sm_X6_isIn rfl rfl (Nat.le_of_ble_eq_true rfl) rfl ?_
  refine e_if_neB 17 dX6_lock_10 (by decide) (fun h1 => ?_) (fun h1 => ?_)
  · skip
    obtain ⟨j, hj0, hj, rfl⟩ := inI_n (by decide) (by decide) h1
    have cj : (nI j).toNatClampNeg = j := nI_clamp (by omega)
    refine e_aload_n 0 dX6_lock_17 rfl ?_
    refine e_mk hX dX6_lock_18 fl_X6_8 ?_
    refine e_sipush (v := nI 240) dX6_lock_21 (by decide) ?_
    refine e_iload_n 1 dX6_lock_24 rfl ?_
    refine e_iaddN dX6_lock_25 ?_
    refine e_kld hX dX6_lock_26 (by omega) ?_
    refine e_bipush (v := (-2)) dX6_lock_27 (by decide) ?_
    refine e_icmp_eq 36 dX6_lock_29 (by decide) (fun h2 => ?_) (fun h2 => ?_)
    · skip
      refine e_ic (nI 0) dX6_lock_36 (by decide) ?_
      refine e_callV (ci := 6) (st := []) (st1 := [.int (bI (rfB kf (nI 0)))]) (As := [.int (nI 0)]) (m_isRefused hX) dX6_lock_37 (by decide) cm_X6_isRefused lk_X6_153 im_X6_isRefused rfl sel_X6_isRefused hX.1 rfl rfl (Nat.le_of_ble_eq_true rfl) rfl ?_
      have hX := MW.s (f := 125) (a := X.1) (x := rfs kf (nI 0)) hX
      have e : whyLock kf (nI j) = nI 0 := by simp [whyLock, h1, h2, cj]
      refine e_if_eqB 45 dX6_lock_40 (by decide) (fun hB => ?_) (fun hB => ?_)
      · skip
        refine e_aload_n 0 dX6_lock_45 rfl ?_
        refine e_mk hX dX6_lock_46 fl_X6_8 ?_
        refine e_sipush (v := nI 240) dX6_lock_49 (by decide) ?_
        refine e_iload_n 1 dX6_lock_52 rfl ?_
        refine e_iaddN dX6_lock_53 ?_
        refine e_ic ((-1)) dX6_lock_54 (by decide) ?_
        refine e_kst hX dX6_lock_55 (by omega) ?_
        refine e_ic (nI 1) dX6_lock_56 (by decide) ?_
        exact e_retI dX6_lock_57 rfl rfl (by rw [e, hB]; rfl) (by rw [lockK, e, if_neg (by rw [hB]; decide)]; rw [cj])
      · skip
        refine e_ic (nI 0) dX6_lock_43 (by decide) ?_
        exact e_retI dX6_lock_44 rfl rfl (by rw [e, hB]; rfl) (by rw [lockK, e, if_pos hB])
    · skip
      refine e_ic (nI 2) dX6_lock_32 (by decide) ?_
      refine e_goto 37 dX6_lock_33 (by decide) ?_
      refine e_callV (ci := 6) (st := []) (st1 := [.int (bI (rfB kf (nI 2)))]) (As := [.int (nI 2)]) (m_isRefused hX) dX6_lock_37 (by decide) cm_X6_isRefused lk_X6_153 im_X6_isRefused rfl sel_X6_isRefused hX.1 rfl rfl (Nat.le_of_ble_eq_true rfl) rfl ?_
      have hB : rfB kf (nI 2) = true := rfB_pos (by decide)
      have hX := MW.s (f := 125) (a := X.1) (x := rfs kf (nI 2)) hX
      have e : whyLock kf (nI j) = nI 2 := by simp [whyLock, h1, h2, cj]
      refine e_if_eqB 45 dX6_lock_40 (by decide) (fun h => absurd h (by rw [hB]; decide)) (fun _ => ?_)
      refine e_ic (nI 0) dX6_lock_43 (by decide) ?_
      exact e_retI dX6_lock_44 rfl rfl (by rw [e, hB]; rfl) (by rw [lockK, e, if_pos hB])
  · skip
    refine e_ic (nI 1) dX6_lock_13 (by decide) ?_
    refine e_goto 37 dX6_lock_14 (by decide) ?_
    refine e_callV (ci := 6) (st := []) (st1 := [.int (bI (rfB kf (nI 1)))]) (As := [.int (nI 1)]) (m_isRefused hX) dX6_lock_37 (by decide) cm_X6_isRefused lk_X6_153 im_X6_isRefused rfl sel_X6_isRefused hX.1 rfl rfl (Nat.le_of_ble_eq_true rfl) rfl ?_
    have hB : rfB kf (nI 1) = true := rfB_pos (by decide)
    have hX := MW.s (f := 125) (a := X.1) (x := rfs kf (nI 1)) hX
    have e : whyLock kf l = nI 1 := by simp [whyLock, h1]
    refine e_if_eqB 45 dX6_lock_40 (by decide) (fun h => absurd h (by rw [hB]; decide)) (fun _ => ?_)
    refine e_ic (nI 0) dX6_lock_43 (by decide) ?_
    exact e_retI dX6_lock_44 rfl rfl (by rw [e, hB]; rfl) (by rw [lockK, e, if_pos hB])
set_option maxRecDepth 100000 in
set_option maxHeartbeats 4000000 in
theorem m_processors (hX : MW m X) {n : Int32} : Ev G 1 uX6_processors [.ref X.1, .int n] (MM m X (kf, vf, lf)) (some (.int (procR kf n))) (MM (sI m 125 X.1 (rfs kf (whyProc n))) X (procK kf n, vf, lf)) := by
  refine Ev.of (by decide +kernel) (Nat.le_of_ble_eq_true rfl) ?_
  refine e_lvs (lv' := [(0, .ref X.1), (1, .int n)]) rfl ?_
  refine e_aload_n 0 dX6_processors_0 rfl ?_
  refine e_iload_n 1 dX6_processors_1 rfl ?_
  refine e_i2l dX6_processors_2 ?_
  refine e_lconst (v := lN 1) dX6_processors_3 (by decide) ?_
  refine e_ldc2 dX6_processors_4 cs_X6_131 ?_
  refine e_lv (w := lN 4) (by decide) ?_
  refine e_callS (st := [.ref X.1]) (st1 := [.int (bI (inI n (nI 1) (nI 4))), .ref X.1]) (As := [.long n.toInt64, .long (lN 1), .long (lN 4)]) (m_isInI (x := n) (lo := (nI 1)) (hi := (nI 4)) rfl ((nI_l (by omega)).symm) ((nI_l (by omega)).symm) _) dX6_processors_7 (by decide) cm_X6_isIn lk_X6_32 sm_X6_isIn rfl rfl (Nat.le_of_ble_eq_true rfl) rfl ?_
  refine e_if_eqB 17 dX6_processors_10 (by decide) (fun h1 => ?_) (fun h1 => ?_)
  · skip
    refine e_ic (nI 1) dX6_processors_17 (by decide) ?_
    refine e_callV (ci := 6) (st := []) (st1 := [.int (bI (rfB kf (nI 1)))]) (As := [.int (nI 1)]) (m_isRefused hX) dX6_processors_18 (by decide) cm_X6_isRefused lk_X6_153 im_X6_isRefused rfl sel_X6_isRefused hX.1 rfl rfl (Nat.le_of_ble_eq_true rfl) rfl ?_
    have hB : rfB kf (nI 1) = true := rfB_pos (by decide)
    have hX := MW.s (f := 125) (a := X.1) (x := rfs kf (nI 1)) hX
    have e : whyProc n = nI 1 := by simp [whyProc, h1]
    refine e_if_eqB 26 dX6_processors_21 (by decide) (fun h => absurd h (by rw [hB]; decide)) (fun _ => ?_)
    refine e_ic ((-1)) dX6_processors_24 (by decide) ?_
    exact e_retI dX6_processors_25 rfl rfl (by rw [procR, e, if_pos hB]) (by rw [procK, e, if_pos hB])
  · skip
    refine e_ic (nI 0) dX6_processors_13 (by decide) ?_
    refine e_goto 18 dX6_processors_14 (by decide) ?_
    refine e_callV (ci := 6) (st := []) (st1 := [.int (bI (rfB kf (nI 0)))]) (As := [.int (nI 0)]) (m_isRefused hX) dX6_processors_18 (by decide) cm_X6_isRefused lk_X6_153 im_X6_isRefused rfl sel_X6_isRefused hX.1 rfl rfl (Nat.le_of_ble_eq_true rfl) rfl ?_
    have hX := MW.s (f := 125) (a := X.1) (x := rfs kf (nI 0)) hX
    have e : whyProc n = nI 0 := by simp [whyProc, h1]
    refine e_if_eqB 26 dX6_processors_21 (by decide) (fun hB => ?_) (fun hB => ?_)
    · skip
      refine e_aload_n 0 dX6_processors_26 rfl ?_
      refine e_mk hX dX6_processors_27 fl_X6_8 ?_
      refine e_ic (nI 2) dX6_processors_30 (by decide) ?_
      refine e_kld hX dX6_processors_31 (by omega) ?_
      refine e_istore_n (lv' := [(2, .int ((rfK kf (nI 0)) (2))), (0, .ref X.1), (1, .int n)]) dX6_processors_32 (by decide) rfl ?_
      refine e_aload_n 1 dX6_processors_33 rfl ?_
      refine e_mk hX dX6_processors_34 fl_X6_8 ?_
      refine e_ic (nI 2) dX6_processors_37 (by decide) ?_
      refine e_iload_n 2 dX6_processors_38 rfl ?_
      refine e_kst hX dX6_processors_39 (by omega) ?_
      refine e_iload_n 0 dX6_processors_40 rfl ?_
      exact e_retI dX6_processors_41 rfl rfl (by rw [procR, e, if_neg (by rw [hB]; decide)]; rw [rfK_1 (by decide)]) (by rw [procK, e, if_neg (by rw [hB]; decide)])
    · skip
      refine e_ic ((-1)) dX6_processors_24 (by decide) ?_
      exact e_retI dX6_processors_25 rfl rfl (by rw [procR, e, if_pos hB]) (by rw [procK, e, if_pos hB])
set_option maxRecDepth 100000 in
set_option maxHeartbeats 4000000 in
theorem m_ring (hX : MW m X) {n : Nat} {b : Int32} (hn : kf 1 = nI n) (hn2 : n ≤ 200) : Ev G 3 uX6_ring [.ref X.1, .int b] (MM m X (kf, vf, lf)) (some (.int (ringR kf b))) (MM (sI m 125 X.1 (rfs kf (whyRing b))) X (ringK kf b, vf, lf)) := by
  refine Ev.of (by decide +kernel) (Nat.le_of_ble_eq_true rfl) ?_
  refine e_lvs (lv' := [(0, .ref X.1), (1, .int b)]) rfl ?_
  refine e_aload_n 0 dX6_ring_0 rfl ?_
  refine e_iload_n 1 dX6_ring_1 rfl ?_
  refine e_i2l dX6_ring_2 ?_
  refine e_lconst (v := lN 0) dX6_ring_3 (by decide) ?_
  refine e_ldc2 dX6_ring_4 cs_X6_97 ?_
  refine e_lv (w := lN 15) (by decide) ?_
  refine e_callS (st := [.ref X.1]) (st1 := [.int (bI (inI b (nI 0) (nI 15))), .ref X.1]) (As := [.long b.toInt64, .long (lN 0), .long (lN 15)]) (m_isInI (x := b) (lo := (nI 0)) (hi := (nI 15)) rfl ((nI_l (by omega)).symm) ((nI_l (by omega)).symm) _) dX6_ring_7 (by decide) cm_X6_isIn lk_X6_32 sm_X6_isIn rfl rfl (Nat.le_of_ble_eq_true rfl) rfl ?_
  refine e_if_eqB 17 dX6_ring_10 (by decide) (fun h1 => ?_) (fun h1 => ?_)
  · skip
    refine e_ic (nI 1) dX6_ring_17 (by decide) ?_
    refine e_callV (ci := 6) (st := []) (st1 := [.int (bI (rfB kf (nI 1)))]) (As := [.int (nI 1)]) (m_isRefused hX) dX6_ring_18 (by decide) cm_X6_isRefused lk_X6_153 im_X6_isRefused rfl sel_X6_isRefused hX.1 rfl rfl (Nat.le_of_ble_eq_true rfl) rfl ?_
    have hB : rfB kf (nI 1) = true := rfB_pos (by decide)
    have hX := MW.s (f := 125) (a := X.1) (x := rfs kf (nI 1)) hX
    have e : whyRing b = nI 1 := by simp [whyRing, h1]
    refine e_if_eqB 28 dX6_ring_21 (by decide) (fun h => absurd h (by rw [hB]; decide)) (fun _ => ?_)
    refine e_ic ((-1)) dX6_ring_24 (by decide) ?_
    refine e_goto 33 dX6_ring_25 (by decide) ?_
    exact e_retI dX6_ring_33 rfl rfl (by rw [ringR, e, if_pos hB]) (by rw [ringK, e, if_pos hB])
  · skip
    refine e_ic (nI 0) dX6_ring_13 (by decide) ?_
    refine e_goto 18 dX6_ring_14 (by decide) ?_
    refine e_callV (ci := 6) (st := []) (st1 := [.int (bI (rfB kf (nI 0)))]) (As := [.int (nI 0)]) (m_isRefused hX) dX6_ring_18 (by decide) cm_X6_isRefused lk_X6_153 im_X6_isRefused rfl sel_X6_isRefused hX.1 rfl rfl (Nat.le_of_ble_eq_true rfl) rfl ?_
    have hX := MW.s (f := 125) (a := X.1) (x := rfs kf (nI 0)) hX
    have e : whyRing b = nI 0 := by simp [whyRing, h1]
    refine e_if_eqB 28 dX6_ring_21 (by decide) (fun hB => ?_) (fun hB => ?_)
    · skip
      refine e_aload_n 0 dX6_ring_28 rfl ?_
      refine e_iload_n 1 dX6_ring_29 rfl ?_
      refine e_callV (ci := 6) (st := []) (st1 := [.int (nI ((rgF (rfK kf (nI 0)) b).2))]) (As := [.int b]) (m_ringBell hX (n := n) (by rw [rfK_1 (by decide)]; exact hn) hn2) dX6_ring_30 (by decide) cm_X6_ringBell lk_X6_103 im_X6_ringBell rfl sel_X6_ringBell hX.1 rfl rfl (Nat.le_of_ble_eq_true rfl) rfl ?_
      exact e_retI dX6_ring_33 rfl rfl (by rw [ringR, e, if_neg (by rw [hB]; decide)]) (by rw [ringK, e, if_neg (by rw [hB]; decide)])
    · skip
      refine e_ic ((-1)) dX6_ring_24 (by decide) ?_
      refine e_goto 33 dX6_ring_25 (by decide) ?_
      exact e_retI dX6_ring_33 rfl rfl (by rw [ringR, e, if_pos hB]) (by rw [ringK, e, if_pos hB])
end Model5
