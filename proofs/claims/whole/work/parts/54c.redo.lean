/-! the class: rows compared, notes done again -/
theorem ck_s {kf : KF} {i : Nat} (h : ckF kf i = none) : ckF kf (i + 1) = if kf (62000 + i) = kf (102000 + i) then none else some i := by
  show ckS kf i (ckF kf i) = _
  rw [h]
  rfl
section Class34
variable {G : GG} {Z Z2 : Mem × YY} {m : Mem} {Y Y2 : YY} {n : Nat} {kf : KF} {vf : VF}

set_option maxRecDepth 100000 in
set_option maxHeartbeats 4000000 in
theorem k_unlike (hq : KQ Z m Y 62000 kf vf n) (hp : KQ Z2 m Y2 102000 kf vf n) {c : Nat} (h3 : kf 3 = nI c) (hc : c ≤ 8000) : Ev G 1 uX3_firstUnlike [.ref (Y.1 3), .ref (Y2.1 3)] m (some (.int (ckR kf))) m := by
  refine Ev.of (by decide +kernel) (Nat.le_of_ble_eq_true rfl) ?_
  have h3n : (kf 3).toNatClampNeg = c := by rw [h3, nI_clamp (by omega)]
  have hN : ckN kf = 5 * c := by unfold ckN; rw [h3n]
  have L : ∀ (k i : Nat), i + k = 5 * c → ckF kf i = none → EvB G 1 uX3_firstUnlike (zz m) (nn m) (some (.int (ckR kf))) m 14 [(3, .int (nI i)), (2, .int (nI c)), (0, .ref (Y.1 3)), (1, .ref (Y2.1 3))] [] m := by
    intro k
    induction k with
    | zero =>
      intro i hi hn0
      refine e_iload_n 0 dX3_firstUnlike_14 rfl ?_
      refine e_iload_n 1 dX3_firstUnlike_15 rfl ?_
      refine e_ic (nI 5) dX3_firstUnlike_16 (by decide) ?_
      refine e_imulN dX3_firstUnlike_17 ?_
      refine e_icmp_geN 46 dX3_firstUnlike_18 (by decide) (by omega) (by omega) (fun _ => ?_) (fun h => absurd h (by omega))
      refine e_aload_n 2 dX3_firstUnlike_46 rfl ?_
      refine e_getIv (nI c) dX3_firstUnlike_47 fl_X3_9 rfl (hq.T 3 (by decide)) (hq.2.1.1.2.2.2.1.trans h3) ?_
      refine e_aload_n 3 dX3_firstUnlike_50 rfl ?_
      refine e_getIv (nI c) dX3_firstUnlike_51 fl_X3_9 rfl (hp.T 3 (by decide)) (hp.2.1.1.2.2.2.1.trans h3) ?_
      refine e_icmp_neN 61 dX3_firstUnlike_54 (by decide) (by omega) (by omega) (fun h => absurd h (not_not_intro rfl)) (fun _ => ?_)
      refine e_ic ((-1)) dX3_firstUnlike_57 (by decide) ?_
      refine e_goto 62 dX3_firstUnlike_58 (by decide) ?_
      exact e_retI dX3_firstUnlike_62 rfl rfl (by unfold ckR; rw [hN, ← show i = 5 * c by omega, hn0]) rfl
    | succ k ih =>
      intro i hi hn0
      have hs := ck_s hn0
      refine e_iload_n 0 dX3_firstUnlike_14 rfl ?_
      refine e_iload_n 1 dX3_firstUnlike_15 rfl ?_
      refine e_ic (nI 5) dX3_firstUnlike_16 (by decide) ?_
      refine e_imulN dX3_firstUnlike_17 ?_
      refine e_icmp_geN 46 dX3_firstUnlike_18 (by decide) (by omega) (by omega) (fun h => absurd h (by omega)) (fun _ => ?_)
      refine e_aload_n 2 dX3_firstUnlike_21 rfl ?_
      refine e_getP (some (Y.1 4)) dX3_firstUnlike_22 fl_X3_15 rfl (hq.T 3 (by decide)) hq.1.2.2.1.2.2.2.2.2.2.2 ?_
      refine e_iload_n 0 dX3_firstUnlike_25 rfl ?_
      refine e_ialdN (kf (62000 + i)) dX3_firstUnlike_26 (hq.T 4 (by decide)) (by have := hq.2.1.2.2.2.2.1.1; rw [h3n] at this; omega) (by have := LC.b hq.1.2.2.2.2.2; omega) (hq.2.1.2.2.2.2.1.2 i (by rw [h3n]; omega)) ?_
      refine e_aload_n 3 dX3_firstUnlike_27 rfl ?_
      refine e_getP (some (Y2.1 4)) dX3_firstUnlike_28 fl_X3_15 rfl (hp.T 3 (by decide)) hp.1.2.2.1.2.2.2.2.2.2.2 ?_
      refine e_iload_n 0 dX3_firstUnlike_31 rfl ?_
      refine e_ialdN (kf (102000 + i)) dX3_firstUnlike_32 (hp.T 4 (by decide)) (by have := hp.2.1.2.2.2.2.1.1; rw [h3n] at this; omega) (by have := LC.b hp.1.2.2.2.2.2; omega) (hp.2.1.2.2.2.2.1.2 i (by rw [h3n]; omega)) ?_
      refine e_icmp_eq 40 dX3_firstUnlike_33 (by decide) (fun q33 => ?_) (fun q33 => ?_)
      · skip
        refine e_iinc1N (lv' := [(3, .int (nI (i + 1))), (2, .int (nI c)), (0, .ref (Y.1 3)), (1, .ref (Y2.1 3))]) 0 dX3_firstUnlike_40 rfl (by decide) rfl ?_
        refine e_goto 14 dX3_firstUnlike_43 (by decide) ?_
        refine e_sub [0, 1, 2, 3] rfl ?_
        exact ih (i + 1) (by omega) (by rw [hs, if_pos q33])
      · skip
        refine e_iload_n 0 dX3_firstUnlike_36 rfl ?_
        refine e_ic (nI 5) dX3_firstUnlike_37 (by decide) ?_
        refine e_idiv dX3_firstUnlike_38 (by decide) ?_
        refine e_iv (w := nI (i / 5)) (nI_div (by omega) (by decide) (by decide)) ?_
        rw [if_neg q33] at hs
        exact e_retI dX3_firstUnlike_39 rfl rfl (by unfold ckR; rw [hN, show 5 * c = i + 1 + k by omega, ck_keep hs k]) rfl
  refine e_lvs (lv' := [(0, .ref (Y.1 3)), (1, .ref (Y2.1 3))]) rfl ?_
  refine e_aload_n 0 dX3_firstUnlike_0 rfl ?_
  refine e_getIv (nI c) dX3_firstUnlike_1 fl_X3_9 rfl (hq.T 3 (by decide)) (hq.2.1.1.2.2.2.1.trans h3) ?_
  refine e_aload_n 1 dX3_firstUnlike_4 rfl ?_
  refine e_getIv (nI c) dX3_firstUnlike_5 fl_X3_9 rfl (hp.T 3 (by decide)) (hp.2.1.1.2.2.2.1.trans h3) ?_
  refine e_jmin dX3_firstUnlike_8 lkm_X3_30 (Nat.le_of_ble_eq_true rfl) ?_
  refine e_iv (w := nI c) (by unfold mnI; split <;> rfl) ?_
  refine e_istore_n (lv' := [(2, .int (nI c)), (0, .ref (Y.1 3)), (1, .ref (Y2.1 3))]) dX3_firstUnlike_11 (by decide) rfl ?_
  refine e_ic (nI 0) dX3_firstUnlike_12 (by decide) ?_
  refine e_istore_n (lv' := [(3, .int (nI 0)), (2, .int (nI c)), (0, .ref (Y.1 3)), (1, .ref (Y2.1 3))]) dX3_firstUnlike_13 (by decide) rfl ?_
  refine e_sub [0, 1, 2, 3] rfl ?_
  exact L (5 * c) 0 (by omega) rfl

end Class34

section Class34b
variable {G : GG} {Z : Mem × YY} {m : Mem} {o : Nat → Nat} {F : Nat} {Y : YY} {AN : Nat × Nat × Nat} {k : KF} {v : VF} {n s i : Nat} {nf : Nat → Int64}

set_option maxRecDepth 100000 in
set_option maxHeartbeats 4000000 in
theorem redo0JJ (hF : gT m F = 6) (hA : gP m 101 F = some AN.1) (hN : NS m o 10 AN s nf) (hq : KQ Z m Y 102000 k v n) (hi : i < s) {j : Nat} (hj31 : j < 2 ^ 31) (e1 : nf (4 * i + 1) = lN j) {b1 : Nat} (hL : LN k) (hb : b1 ≤ 8) (hl : plen k j + b1 ≤ 1000) (e3 : nf (4 * i + 3) = lN b1) (hj : j < n) (hp : j < 32) (e0 : nf (4 * i) = lN 0) : EvC G 6 uX5_redo [.ref F, .int (nI i), .ref (Y.1 0)] m (fun r mm => r = none ∧ ∃ Y2, Y2.1 0 = Y.1 0 ∧ KQ Z mm Y2 102000 (upd (progB k j (plen k j) (nf (4 * i + 2)) b1) (340 + j) (nI (plen k j + b1))) v n) := by
  refine EvC.of (by decide +kernel) (Nat.le_of_ble_eq_true rfl) ?_
  have hn2 := hq.n2
  have hs1 := hN.2.2.2.2.1
  refine r_go (fun kk => e_lvs (lv' := [(0, .ref F), (1, .int (nI i)), (2, .ref (Y.1 0))]) rfl kk) ?_
  refine r_go (fun kk => e_aload_n 0 dX5_redo_0 rfl kk) ?_
  refine r_go (fun kk => e_getP (some AN.1) dX5_redo_1 fl_X5_19 rfl hF hA kk) ?_
  refine r_go (fun kk => e_iload_n 1 dX5_redo_4 rfl kk) ?_
  refine r_go (fun kk => e_ic (nI 1) dX5_redo_5 (by decide) kk) ?_
  refine r_go (fun kk => e_callV (ci := 1) (st := []) (st1 := [.long (nf (4 * i + 1))]) (As := [.int (nI i), .int (nI 1)]) (k_notesGet (G := G) hN hi (j := 1) (by omega)) dX5_redo_6 (by decide) cm_X1_get lk_X5_215 im_X1_get rfl sel_X1_get hN.1.1 rfl rfl (Nat.le_of_ble_eq_true rfl) rfl kk) ?_
  refine r_go (fun kk => e_l2i dX5_redo_9 kk) ?_
  refine r_go (fun kk => e_iv (w := nI j) (by rw [e1, lN_i]) kk) ?_
  refine r_go (fun kk => e_istore_n (lv' := [(3, .int (nI j)), (0, .ref F), (1, .int (nI i)), (2, .ref (Y.1 0))]) dX5_redo_10 (by decide) rfl kk) ?_
  refine r_go (fun kk => e_aload_n 1 dX5_redo_11 rfl kk) ?_
  refine r_go (fun kk => e_getP (some AN.1) dX5_redo_12 fl_X5_19 rfl hF hA kk) ?_
  refine r_go (fun kk => e_iload_n 2 dX5_redo_15 rfl kk) ?_
  refine r_go (fun kk => e_ic (nI 2) dX5_redo_16 (by decide) kk) ?_
  refine r_go (fun kk => e_callV (ci := 1) (st := []) (st1 := [.long (nf (4 * i + 2))]) (As := [.int (nI i), .int (nI 2)]) (k_notesGet (G := G) hN hi (j := 2) (by omega)) dX5_redo_17 (by decide) cm_X1_get lk_X5_215 im_X1_get rfl sel_X1_get hN.1.1 rfl rfl (Nat.le_of_ble_eq_true rfl) rfl kk) ?_
  refine r_go (fun kk => e_l2i dX5_redo_20 kk) ?_
  refine r_go (fun kk => e_istore (lv' := [(4, .int ((nf (4 * i + 2)).toInt32)), (3, .int (nI j)), (0, .ref F), (1, .int (nI i)), (2, .ref (Y.1 0))]) dX5_redo_21 (by decide) rfl kk) ?_
  refine r_go (fun kk => e_aload_n 2 dX5_redo_23 rfl kk) ?_
  refine r_go (fun kk => e_getP (some AN.1) dX5_redo_24 fl_X5_19 rfl hF hA kk) ?_
  refine r_go (fun kk => e_iload_n 3 dX5_redo_27 rfl kk) ?_
  refine r_go (fun kk => e_ic (nI 3) dX5_redo_28 (by decide) kk) ?_
  refine r_go (fun kk => e_callV (ci := 1) (st := []) (st1 := [.long (nf (4 * i + 3))]) (As := [.int (nI i), .int (nI 3)]) (k_notesGet (G := G) hN hi (j := 3) (by omega)) dX5_redo_29 (by decide) cm_X1_get lk_X5_215 im_X1_get rfl sel_X1_get hN.1.1 rfl rfl (Nat.le_of_ble_eq_true rfl) rfl kk) ?_
  refine r_go (fun kk => e_l2i dX5_redo_32 kk) ?_
  refine r_go (fun kk => e_iv (w := nI b1) (by rw [e3, lN_i]) kk) ?_
  refine r_go (fun kk => e_istore (lv' := [(5, .int (nI b1)), (4, .int ((nf (4 * i + 2)).toInt32)), (3, .int (nI j)), (0, .ref F), (1, .int (nI i)), (2, .ref (Y.1 0))]) dX5_redo_33 (by decide) rfl kk) ?_
  refine r_go (fun kk => e_aload_n 5 dX5_redo_35 rfl kk) ?_
  refine r_go (fun kk => e_iload_n 2 dX5_redo_36 rfl kk) ?_
  refine r_go (fun kk => e_callV (ci := 0) (st := []) (st1 := [.ref (Y.1 (9 + j))]) (As := [.int (nI j)]) (k_taskAt (G := G) hq hj) dX5_redo_37 (by decide) cm_X0_taskAt lk_X5_112 im_X0_taskAt rfl sel_X0_taskAt (hq.T 0 (by decide)) rfl rfl (Nat.le_of_ble_eq_true rfl) rfl kk) ?_
  refine r_go (fun kk => e_astore (lv' := [(6, .ref (Y.1 (9 + j))), (5, .int (nI b1)), (4, .int ((nf (4 * i + 2)).toInt32)), (3, .int (nI j)), (0, .ref F), (1, .int (nI i)), (2, .ref (Y.1 0))]) dX5_redo_40 (by decide) rfl kk) ?_
  refine r_go (fun kk => e_aload_n 6 dX5_redo_42 rfl kk) ?_
  refine r_go (fun kk => e_iload_n 3 dX5_redo_43 rfl kk) ?_
  refine r_go (fun kk => e_callV (ci := 0) (st := []) (st1 := [.ref (Y.1 (209 + j))]) (As := [.int (nI j)]) (k_programAt (G := G) hq (j := j) (by omega)) dX5_redo_44 (by decide) cm_X0_programAt lk_X5_39 im_X0_programAt rfl sel_X0_programAt (hq.T 0 (by decide)) rfl rfl (Nat.le_of_ble_eq_true rfl) rfl kk) ?_
  refine r_go (fun kk => e_astore (lv' := [(7, .ref (Y.1 (209 + j))), (6, .ref (Y.1 (9 + j))), (5, .int (nI b1)), (4, .int ((nf (4 * i + 2)).toInt32)), (3, .int (nI j)), (0, .ref F), (1, .int (nI i)), (2, .ref (Y.1 0))]) dX5_redo_47 (by decide) rfl kk) ?_
  refine r_go (fun kk => e_aload_n 5 dX5_redo_49 rfl kk) ?_
  refine r_go (fun kk => e_getP (some AN.1) dX5_redo_50 fl_X5_19 rfl hF hA kk) ?_
  refine r_go (fun kk => e_iload_n 6 dX5_redo_53 rfl kk) ?_
  refine r_go (fun kk => e_ic (nI 0) dX5_redo_54 (by decide) kk) ?_
  refine r_go (fun kk => e_callV (ci := 1) (st := []) (st1 := [.long (nf (4 * i + 0))]) (As := [.int (nI i), .int (nI 0)]) (k_notesGet (G := G) hN hi (j := 0) (by omega)) dX5_redo_55 (by decide) cm_X1_get lk_X5_215 im_X1_get rfl sel_X1_get hN.1.1 rfl rfl (Nat.le_of_ble_eq_true rfl) rfl kk) ?_
  refine r_go (fun kk => e_l2i dX5_redo_58 kk) ?_
  refine r_go (fun kk => e_iv (w := nI 0) (by rw [show nf (4 * i + 0) = _ from e0, lN_i]) kk) ?_
  refine r_go (fun kk => e_tabIn (off := 45) 104 dX5_redo_59 (by decide) (by decide) (by decide) (by decide) kk) ?_
  refine r_go (fun kk => e_aload 0 dX5_redo_104 rfl kk) ?_
  refine r_go (fun kk => e_ifnull dX5_redo_106 kk) ?_
  refine r_go (fun kk => e_aload 0 dX5_redo_109 rfl kk) ?_
  refine r_go (fun kk => e_aload_n 5 dX5_redo_111 rfl kk) ?_
  refine r_go (fun kk => e_getP (some AN.1) dX5_redo_112 fl_X5_19 rfl hF hA kk) ?_
  refine r_go (fun kk => e_iload_n 6 dX5_redo_115 rfl kk) ?_
  refine r_go (fun kk => e_ic (nI 2) dX5_redo_116 (by decide) kk) ?_
  refine r_go (fun kk => e_callV (ci := 1) (st := [.ref (Y.1 (209 + j))]) (st1 := [.long (nf (4 * i + 2)), .ref (Y.1 (209 + j))]) (As := [.int (nI i), .int (nI 2)]) (k_notesGet (G := G) hN hi (j := 2) (by omega)) dX5_redo_117 (by decide) cm_X1_get lk_X5_215 im_X1_get rfl sel_X1_get hN.1.1 rfl rfl (Nat.le_of_ble_eq_true rfl) rfl kk) ?_
  refine r_go (fun kk => e_iload 2 dX5_redo_120 rfl kk) ?_
  obtain ⟨_, m2, ⟨rfl, Y3, hSm, hq2⟩, E0x122⟩ := k_extend (G := G) hq (by omega) (p := j) (b := b1) hp hL hb (nf (4 * i + 2)) hl
  refine r_go (fun kk => e_callV (ci := 2) (st := []) (st1 := [.int (nI (plen k j + b1))]) (As := [.long (nf (4 * i + 2)), .int (nI b1)]) (E0x122) dX5_redo_122 (by decide) cm_X2_extend lk_X5_57 im_X2_extend rfl sel_X2_extend (hq.Tp (by omega)) rfl rfl (Nat.le_of_ble_eq_true rfl) rfl kk) ?_
  obtain ⟨Y2, hY2, hq2⟩ : ∃ Y2 : YY, Y2.1 0 = Y.1 0 ∧ KQ Z m2 Y2 102000 (upd (progB k j (plen k j) (nf (4 * i + 2)) b1) (340 + j) (nI (plen k j + b1))) v n := ⟨Y3, hSm 0 (by omega), hq2⟩
  refine r_go (fun kk => e_pop dX5_redo_125 rfl kk) ?_
  refine r_go (fun kk => e_goto 214 dX5_redo_126 (by decide) kk) ?_
  exact r_ret ⟨rfl, Y2, hY2, hq2⟩ (e_retV dX5_redo_214 rfl rfl)

set_option maxRecDepth 100000 in
set_option maxHeartbeats 4000000 in
theorem redo0NJ (hF : gT m F = 6) (hA : gP m 101 F = some AN.1) (hN : NS m o 10 AN s nf) (hq : KQ Z m Y 102000 k v n) (hi : i < s) {j : Nat} (hj31 : j < 2 ^ 31) (e1 : nf (4 * i + 1) = lN j) {b1 : Nat} (hL : LN k) (hb : b1 ≤ 8) (hl : plen k j + b1 ≤ 1000) (e3 : nf (4 * i + 3) = lN b1) (hx : tIn k (nI j) = false) (hp : j < 32) (e0 : nf (4 * i) = lN 0) : EvC G 6 uX5_redo [.ref F, .int (nI i), .ref (Y.1 0)] m (fun r mm => r = none ∧ ∃ Y2, Y2.1 0 = Y.1 0 ∧ KQ Z mm Y2 102000 (upd (progB k j (plen k j) (nf (4 * i + 2)) b1) (340 + j) (nI (plen k j + b1))) v n) := by
  refine EvC.of (by decide +kernel) (Nat.le_of_ble_eq_true rfl) ?_
  have hn2 := hq.n2
  have hs1 := hN.2.2.2.2.1
  refine r_go (fun kk => e_lvs (lv' := [(0, .ref F), (1, .int (nI i)), (2, .ref (Y.1 0))]) rfl kk) ?_
  refine r_go (fun kk => e_aload_n 0 dX5_redo_0 rfl kk) ?_
  refine r_go (fun kk => e_getP (some AN.1) dX5_redo_1 fl_X5_19 rfl hF hA kk) ?_
  refine r_go (fun kk => e_iload_n 1 dX5_redo_4 rfl kk) ?_
  refine r_go (fun kk => e_ic (nI 1) dX5_redo_5 (by decide) kk) ?_
  refine r_go (fun kk => e_callV (ci := 1) (st := []) (st1 := [.long (nf (4 * i + 1))]) (As := [.int (nI i), .int (nI 1)]) (k_notesGet (G := G) hN hi (j := 1) (by omega)) dX5_redo_6 (by decide) cm_X1_get lk_X5_215 im_X1_get rfl sel_X1_get hN.1.1 rfl rfl (Nat.le_of_ble_eq_true rfl) rfl kk) ?_
  refine r_go (fun kk => e_l2i dX5_redo_9 kk) ?_
  refine r_go (fun kk => e_iv (w := nI j) (by rw [e1, lN_i]) kk) ?_
  refine r_go (fun kk => e_istore_n (lv' := [(3, .int (nI j)), (0, .ref F), (1, .int (nI i)), (2, .ref (Y.1 0))]) dX5_redo_10 (by decide) rfl kk) ?_
  refine r_go (fun kk => e_aload_n 1 dX5_redo_11 rfl kk) ?_
  refine r_go (fun kk => e_getP (some AN.1) dX5_redo_12 fl_X5_19 rfl hF hA kk) ?_
  refine r_go (fun kk => e_iload_n 2 dX5_redo_15 rfl kk) ?_
  refine r_go (fun kk => e_ic (nI 2) dX5_redo_16 (by decide) kk) ?_
  refine r_go (fun kk => e_callV (ci := 1) (st := []) (st1 := [.long (nf (4 * i + 2))]) (As := [.int (nI i), .int (nI 2)]) (k_notesGet (G := G) hN hi (j := 2) (by omega)) dX5_redo_17 (by decide) cm_X1_get lk_X5_215 im_X1_get rfl sel_X1_get hN.1.1 rfl rfl (Nat.le_of_ble_eq_true rfl) rfl kk) ?_
  refine r_go (fun kk => e_l2i dX5_redo_20 kk) ?_
  refine r_go (fun kk => e_istore (lv' := [(4, .int ((nf (4 * i + 2)).toInt32)), (3, .int (nI j)), (0, .ref F), (1, .int (nI i)), (2, .ref (Y.1 0))]) dX5_redo_21 (by decide) rfl kk) ?_
  refine r_go (fun kk => e_aload_n 2 dX5_redo_23 rfl kk) ?_
  refine r_go (fun kk => e_getP (some AN.1) dX5_redo_24 fl_X5_19 rfl hF hA kk) ?_
  refine r_go (fun kk => e_iload_n 3 dX5_redo_27 rfl kk) ?_
  refine r_go (fun kk => e_ic (nI 3) dX5_redo_28 (by decide) kk) ?_
  refine r_go (fun kk => e_callV (ci := 1) (st := []) (st1 := [.long (nf (4 * i + 3))]) (As := [.int (nI i), .int (nI 3)]) (k_notesGet (G := G) hN hi (j := 3) (by omega)) dX5_redo_29 (by decide) cm_X1_get lk_X5_215 im_X1_get rfl sel_X1_get hN.1.1 rfl rfl (Nat.le_of_ble_eq_true rfl) rfl kk) ?_
  refine r_go (fun kk => e_l2i dX5_redo_32 kk) ?_
  refine r_go (fun kk => e_iv (w := nI b1) (by rw [e3, lN_i]) kk) ?_
  refine r_go (fun kk => e_istore (lv' := [(5, .int (nI b1)), (4, .int ((nf (4 * i + 2)).toInt32)), (3, .int (nI j)), (0, .ref F), (1, .int (nI i)), (2, .ref (Y.1 0))]) dX5_redo_33 (by decide) rfl kk) ?_
  refine r_go (fun kk => e_aload_n 5 dX5_redo_35 rfl kk) ?_
  refine r_go (fun kk => e_iload_n 2 dX5_redo_36 rfl kk) ?_
  refine r_go (fun kk => e_callV (ci := 0) (st := []) (st1 := [.null]) (As := [.int (nI j)]) (k_taskAtN (G := G) hq hx) dX5_redo_37 (by decide) cm_X0_taskAt lk_X5_112 im_X0_taskAt rfl sel_X0_taskAt (hq.T 0 (by decide)) rfl rfl (Nat.le_of_ble_eq_true rfl) rfl kk) ?_
  refine r_go (fun kk => e_astoreN (lv' := [(6, .null), (5, .int (nI b1)), (4, .int ((nf (4 * i + 2)).toInt32)), (3, .int (nI j)), (0, .ref F), (1, .int (nI i)), (2, .ref (Y.1 0))]) dX5_redo_40 (by decide) rfl kk) ?_
  refine r_go (fun kk => e_aload_n 6 dX5_redo_42 rfl kk) ?_
  refine r_go (fun kk => e_iload_n 3 dX5_redo_43 rfl kk) ?_
  refine r_go (fun kk => e_callV (ci := 0) (st := []) (st1 := [.ref (Y.1 (209 + j))]) (As := [.int (nI j)]) (k_programAt (G := G) hq (j := j) (by omega)) dX5_redo_44 (by decide) cm_X0_programAt lk_X5_39 im_X0_programAt rfl sel_X0_programAt (hq.T 0 (by decide)) rfl rfl (Nat.le_of_ble_eq_true rfl) rfl kk) ?_
  refine r_go (fun kk => e_astore (lv' := [(7, .ref (Y.1 (209 + j))), (6, .null), (5, .int (nI b1)), (4, .int ((nf (4 * i + 2)).toInt32)), (3, .int (nI j)), (0, .ref F), (1, .int (nI i)), (2, .ref (Y.1 0))]) dX5_redo_47 (by decide) rfl kk) ?_
  refine r_go (fun kk => e_aload_n 5 dX5_redo_49 rfl kk) ?_
  refine r_go (fun kk => e_getP (some AN.1) dX5_redo_50 fl_X5_19 rfl hF hA kk) ?_
  refine r_go (fun kk => e_iload_n 6 dX5_redo_53 rfl kk) ?_
  refine r_go (fun kk => e_ic (nI 0) dX5_redo_54 (by decide) kk) ?_
  refine r_go (fun kk => e_callV (ci := 1) (st := []) (st1 := [.long (nf (4 * i + 0))]) (As := [.int (nI i), .int (nI 0)]) (k_notesGet (G := G) hN hi (j := 0) (by omega)) dX5_redo_55 (by decide) cm_X1_get lk_X5_215 im_X1_get rfl sel_X1_get hN.1.1 rfl rfl (Nat.le_of_ble_eq_true rfl) rfl kk) ?_
  refine r_go (fun kk => e_l2i dX5_redo_58 kk) ?_
  refine r_go (fun kk => e_iv (w := nI 0) (by rw [show nf (4 * i + 0) = _ from e0, lN_i]) kk) ?_
  refine r_go (fun kk => e_tabIn (off := 45) 104 dX5_redo_59 (by decide) (by decide) (by decide) (by decide) kk) ?_
  refine r_go (fun kk => e_aload 0 dX5_redo_104 rfl kk) ?_
  refine r_go (fun kk => e_ifnull dX5_redo_106 kk) ?_
  refine r_go (fun kk => e_aload 0 dX5_redo_109 rfl kk) ?_
  refine r_go (fun kk => e_aload_n 5 dX5_redo_111 rfl kk) ?_
  refine r_go (fun kk => e_getP (some AN.1) dX5_redo_112 fl_X5_19 rfl hF hA kk) ?_
  refine r_go (fun kk => e_iload_n 6 dX5_redo_115 rfl kk) ?_
  refine r_go (fun kk => e_ic (nI 2) dX5_redo_116 (by decide) kk) ?_
  refine r_go (fun kk => e_callV (ci := 1) (st := [.ref (Y.1 (209 + j))]) (st1 := [.long (nf (4 * i + 2)), .ref (Y.1 (209 + j))]) (As := [.int (nI i), .int (nI 2)]) (k_notesGet (G := G) hN hi (j := 2) (by omega)) dX5_redo_117 (by decide) cm_X1_get lk_X5_215 im_X1_get rfl sel_X1_get hN.1.1 rfl rfl (Nat.le_of_ble_eq_true rfl) rfl kk) ?_
  refine r_go (fun kk => e_iload 2 dX5_redo_120 rfl kk) ?_
  obtain ⟨_, m2, ⟨rfl, Y3, hSm, hq2⟩, E0x122⟩ := k_extend (G := G) hq (by omega) (p := j) (b := b1) hp hL hb (nf (4 * i + 2)) hl
  refine r_go (fun kk => e_callV (ci := 2) (st := []) (st1 := [.int (nI (plen k j + b1))]) (As := [.long (nf (4 * i + 2)), .int (nI b1)]) (E0x122) dX5_redo_122 (by decide) cm_X2_extend lk_X5_57 im_X2_extend rfl sel_X2_extend (hq.Tp (by omega)) rfl rfl (Nat.le_of_ble_eq_true rfl) rfl kk) ?_
  obtain ⟨Y2, hY2, hq2⟩ : ∃ Y2 : YY, Y2.1 0 = Y.1 0 ∧ KQ Z m2 Y2 102000 (upd (progB k j (plen k j) (nf (4 * i + 2)) b1) (340 + j) (nI (plen k j + b1))) v n := ⟨Y3, hSm 0 (by omega), hq2⟩
  refine r_go (fun kk => e_pop dX5_redo_125 rfl kk) ?_
  refine r_go (fun kk => e_goto 214 dX5_redo_126 (by decide) kk) ?_
  exact r_ret ⟨rfl, Y2, hY2, hq2⟩ (e_retV dX5_redo_214 rfl rfl)

set_option maxRecDepth 100000 in
set_option maxHeartbeats 4000000 in
theorem redo1JJ (hF : gT m F = 6) (hA : gP m 101 F = some AN.1) (hN : NS m o 10 AN s nf) (hq : KQ Z m Y 102000 k v n) (hi : i < s) {j : Nat} (hj31 : j < 2 ^ 31) (e1 : nf (4 * i + 1) = lN j) {b c : Int32} (hn3 : n < 200) (e2 : nf (4 * i + 2) = b.toInt64) (e3 : nf (4 * i + 3) = c.toInt64) (hj : j < n) (hp : j < 32) (e0 : nf (4 * i) = lN 1) : EvC G 6 uX5_redo [.ref F, .int (nI i), .ref (Y.1 0)] m (fun r mm => r = none ∧ ∃ Y2, Y2.1 0 = Y.1 0 ∧ KQ Z mm Y2 102000 (adK k n (nI j) b c (nI 100) (nI 0)) (vp_updL v n (lvF k v n).2) (n + 1)) := by
  refine EvC.of (by decide +kernel) (Nat.le_of_ble_eq_true rfl) ?_
  have hn2 := hq.n2
  have hs1 := hN.2.2.2.2.1
  refine r_go (fun kk => e_lvs (lv' := [(0, .ref F), (1, .int (nI i)), (2, .ref (Y.1 0))]) rfl kk) ?_
  refine r_go (fun kk => e_aload_n 0 dX5_redo_0 rfl kk) ?_
  refine r_go (fun kk => e_getP (some AN.1) dX5_redo_1 fl_X5_19 rfl hF hA kk) ?_
  refine r_go (fun kk => e_iload_n 1 dX5_redo_4 rfl kk) ?_
  refine r_go (fun kk => e_ic (nI 1) dX5_redo_5 (by decide) kk) ?_
  refine r_go (fun kk => e_callV (ci := 1) (st := []) (st1 := [.long (nf (4 * i + 1))]) (As := [.int (nI i), .int (nI 1)]) (k_notesGet (G := G) hN hi (j := 1) (by omega)) dX5_redo_6 (by decide) cm_X1_get lk_X5_215 im_X1_get rfl sel_X1_get hN.1.1 rfl rfl (Nat.le_of_ble_eq_true rfl) rfl kk) ?_
  refine r_go (fun kk => e_l2i dX5_redo_9 kk) ?_
  refine r_go (fun kk => e_iv (w := nI j) (by rw [e1, lN_i]) kk) ?_
  refine r_go (fun kk => e_istore_n (lv' := [(3, .int (nI j)), (0, .ref F), (1, .int (nI i)), (2, .ref (Y.1 0))]) dX5_redo_10 (by decide) rfl kk) ?_
  refine r_go (fun kk => e_aload_n 1 dX5_redo_11 rfl kk) ?_
  refine r_go (fun kk => e_getP (some AN.1) dX5_redo_12 fl_X5_19 rfl hF hA kk) ?_
  refine r_go (fun kk => e_iload_n 2 dX5_redo_15 rfl kk) ?_
  refine r_go (fun kk => e_ic (nI 2) dX5_redo_16 (by decide) kk) ?_
  refine r_go (fun kk => e_callV (ci := 1) (st := []) (st1 := [.long (nf (4 * i + 2))]) (As := [.int (nI i), .int (nI 2)]) (k_notesGet (G := G) hN hi (j := 2) (by omega)) dX5_redo_17 (by decide) cm_X1_get lk_X5_215 im_X1_get rfl sel_X1_get hN.1.1 rfl rfl (Nat.le_of_ble_eq_true rfl) rfl kk) ?_
  refine r_go (fun kk => e_l2i dX5_redo_20 kk) ?_
  refine r_go (fun kk => e_iv (w := b) (by rw [e2, Int32.toInt32_toInt64]) kk) ?_
  refine r_go (fun kk => e_istore (lv' := [(4, .int b), (3, .int (nI j)), (0, .ref F), (1, .int (nI i)), (2, .ref (Y.1 0))]) dX5_redo_21 (by decide) rfl kk) ?_
  refine r_go (fun kk => e_aload_n 2 dX5_redo_23 rfl kk) ?_
  refine r_go (fun kk => e_getP (some AN.1) dX5_redo_24 fl_X5_19 rfl hF hA kk) ?_
  refine r_go (fun kk => e_iload_n 3 dX5_redo_27 rfl kk) ?_
  refine r_go (fun kk => e_ic (nI 3) dX5_redo_28 (by decide) kk) ?_
  refine r_go (fun kk => e_callV (ci := 1) (st := []) (st1 := [.long (nf (4 * i + 3))]) (As := [.int (nI i), .int (nI 3)]) (k_notesGet (G := G) hN hi (j := 3) (by omega)) dX5_redo_29 (by decide) cm_X1_get lk_X5_215 im_X1_get rfl sel_X1_get hN.1.1 rfl rfl (Nat.le_of_ble_eq_true rfl) rfl kk) ?_
  refine r_go (fun kk => e_l2i dX5_redo_32 kk) ?_
  refine r_go (fun kk => e_iv (w := c) (by rw [e3, Int32.toInt32_toInt64]) kk) ?_
  refine r_go (fun kk => e_istore (lv' := [(5, .int c), (4, .int b), (3, .int (nI j)), (0, .ref F), (1, .int (nI i)), (2, .ref (Y.1 0))]) dX5_redo_33 (by decide) rfl kk) ?_
  refine r_go (fun kk => e_aload_n 5 dX5_redo_35 rfl kk) ?_
  refine r_go (fun kk => e_iload_n 2 dX5_redo_36 rfl kk) ?_
  refine r_go (fun kk => e_callV (ci := 0) (st := []) (st1 := [.ref (Y.1 (9 + j))]) (As := [.int (nI j)]) (k_taskAt (G := G) hq hj) dX5_redo_37 (by decide) cm_X0_taskAt lk_X5_112 im_X0_taskAt rfl sel_X0_taskAt (hq.T 0 (by decide)) rfl rfl (Nat.le_of_ble_eq_true rfl) rfl kk) ?_
  refine r_go (fun kk => e_astore (lv' := [(6, .ref (Y.1 (9 + j))), (5, .int c), (4, .int b), (3, .int (nI j)), (0, .ref F), (1, .int (nI i)), (2, .ref (Y.1 0))]) dX5_redo_40 (by decide) rfl kk) ?_
  refine r_go (fun kk => e_aload_n 6 dX5_redo_42 rfl kk) ?_
  refine r_go (fun kk => e_iload_n 3 dX5_redo_43 rfl kk) ?_
  refine r_go (fun kk => e_callV (ci := 0) (st := []) (st1 := [.ref (Y.1 (209 + j))]) (As := [.int (nI j)]) (k_programAt (G := G) hq (j := j) (by omega)) dX5_redo_44 (by decide) cm_X0_programAt lk_X5_39 im_X0_programAt rfl sel_X0_programAt (hq.T 0 (by decide)) rfl rfl (Nat.le_of_ble_eq_true rfl) rfl kk) ?_
  refine r_go (fun kk => e_astore (lv' := [(7, .ref (Y.1 (209 + j))), (6, .ref (Y.1 (9 + j))), (5, .int c), (4, .int b), (3, .int (nI j)), (0, .ref F), (1, .int (nI i)), (2, .ref (Y.1 0))]) dX5_redo_47 (by decide) rfl kk) ?_
  refine r_go (fun kk => e_aload_n 5 dX5_redo_49 rfl kk) ?_
  refine r_go (fun kk => e_getP (some AN.1) dX5_redo_50 fl_X5_19 rfl hF hA kk) ?_
  refine r_go (fun kk => e_iload_n 6 dX5_redo_53 rfl kk) ?_
  refine r_go (fun kk => e_ic (nI 0) dX5_redo_54 (by decide) kk) ?_
  refine r_go (fun kk => e_callV (ci := 1) (st := []) (st1 := [.long (nf (4 * i + 0))]) (As := [.int (nI i), .int (nI 0)]) (k_notesGet (G := G) hN hi (j := 0) (by omega)) dX5_redo_55 (by decide) cm_X1_get lk_X5_215 im_X1_get rfl sel_X1_get hN.1.1 rfl rfl (Nat.le_of_ble_eq_true rfl) rfl kk) ?_
  refine r_go (fun kk => e_l2i dX5_redo_58 kk) ?_
  refine r_go (fun kk => e_iv (w := nI 1) (by rw [show nf (4 * i + 0) = _ from e0, lN_i]) kk) ?_
  refine r_go (fun kk => e_tabIn (off := 70) 129 dX5_redo_59 (by decide) (by decide) (by decide) (by decide) kk) ?_
  refine r_go (fun kk => e_aload_n 7 dX5_redo_129 rfl kk) ?_
  refine r_go (fun kk => e_iload_n 4 dX5_redo_130 rfl kk) ?_
  refine r_go (fun kk => e_iload 3 dX5_redo_131 rfl kk) ?_
  refine r_go (fun kk => e_iload 2 dX5_redo_133 rfl kk) ?_
  obtain ⟨_, m2, ⟨rfl, hq2⟩, E0x135⟩ := k_addTask (G := G) hq (by omega) hn3 (nI j) b c
  refine r_go (fun kk => e_callV (ci := 0) (st := []) (st1 := [.int (nI n)]) (As := [.int (nI j), .int b, .int c]) (E0x135) dX5_redo_135 (by decide) cm_X0_addTask lk_X5_68 im_X0_addTask rfl sel_X0_addTask (hq.T 0 (by decide)) rfl rfl (Nat.le_of_ble_eq_true rfl) rfl kk) ?_
  obtain ⟨Y2, hY2, hq2⟩ : ∃ Y2 : YY, Y2.1 0 = Y.1 0 ∧ KQ Z m2 Y2 102000 (adK k n (nI j) b c (nI 100) (nI 0)) (vp_updL v n (lvF k v n).2) (n + 1) := ⟨Y, rfl, hq2⟩
  refine r_go (fun kk => e_pop dX5_redo_138 rfl kk) ?_
  refine r_go (fun kk => e_goto 214 dX5_redo_139 (by decide) kk) ?_
  exact r_ret ⟨rfl, Y2, hY2, hq2⟩ (e_retV dX5_redo_214 rfl rfl)

set_option maxRecDepth 100000 in
set_option maxHeartbeats 4000000 in
theorem redo1JN (hF : gT m F = 6) (hA : gP m 101 F = some AN.1) (hN : NS m o 10 AN s nf) (hq : KQ Z m Y 102000 k v n) (hi : i < s) {j : Nat} (hj31 : j < 2 ^ 31) (e1 : nf (4 * i + 1) = lN j) {b c : Int32} (hn3 : n < 200) (e2 : nf (4 * i + 2) = b.toInt64) (e3 : nf (4 * i + 3) = c.toInt64) (hj : j < n) (hy : inI (nI j) (nI 0) (nI 31) = false) (e0 : nf (4 * i) = lN 1) : EvC G 6 uX5_redo [.ref F, .int (nI i), .ref (Y.1 0)] m (fun r mm => r = none ∧ ∃ Y2, Y2.1 0 = Y.1 0 ∧ KQ Z mm Y2 102000 (adK k n (nI j) b c (nI 100) (nI 0)) (vp_updL v n (lvF k v n).2) (n + 1)) := by
  refine EvC.of (by decide +kernel) (Nat.le_of_ble_eq_true rfl) ?_
  have hn2 := hq.n2
  have hs1 := hN.2.2.2.2.1
  refine r_go (fun kk => e_lvs (lv' := [(0, .ref F), (1, .int (nI i)), (2, .ref (Y.1 0))]) rfl kk) ?_
  refine r_go (fun kk => e_aload_n 0 dX5_redo_0 rfl kk) ?_
  refine r_go (fun kk => e_getP (some AN.1) dX5_redo_1 fl_X5_19 rfl hF hA kk) ?_
  refine r_go (fun kk => e_iload_n 1 dX5_redo_4 rfl kk) ?_
  refine r_go (fun kk => e_ic (nI 1) dX5_redo_5 (by decide) kk) ?_
  refine r_go (fun kk => e_callV (ci := 1) (st := []) (st1 := [.long (nf (4 * i + 1))]) (As := [.int (nI i), .int (nI 1)]) (k_notesGet (G := G) hN hi (j := 1) (by omega)) dX5_redo_6 (by decide) cm_X1_get lk_X5_215 im_X1_get rfl sel_X1_get hN.1.1 rfl rfl (Nat.le_of_ble_eq_true rfl) rfl kk) ?_
  refine r_go (fun kk => e_l2i dX5_redo_9 kk) ?_
  refine r_go (fun kk => e_iv (w := nI j) (by rw [e1, lN_i]) kk) ?_
  refine r_go (fun kk => e_istore_n (lv' := [(3, .int (nI j)), (0, .ref F), (1, .int (nI i)), (2, .ref (Y.1 0))]) dX5_redo_10 (by decide) rfl kk) ?_
  refine r_go (fun kk => e_aload_n 1 dX5_redo_11 rfl kk) ?_
  refine r_go (fun kk => e_getP (some AN.1) dX5_redo_12 fl_X5_19 rfl hF hA kk) ?_
  refine r_go (fun kk => e_iload_n 2 dX5_redo_15 rfl kk) ?_
  refine r_go (fun kk => e_ic (nI 2) dX5_redo_16 (by decide) kk) ?_
  refine r_go (fun kk => e_callV (ci := 1) (st := []) (st1 := [.long (nf (4 * i + 2))]) (As := [.int (nI i), .int (nI 2)]) (k_notesGet (G := G) hN hi (j := 2) (by omega)) dX5_redo_17 (by decide) cm_X1_get lk_X5_215 im_X1_get rfl sel_X1_get hN.1.1 rfl rfl (Nat.le_of_ble_eq_true rfl) rfl kk) ?_
  refine r_go (fun kk => e_l2i dX5_redo_20 kk) ?_
  refine r_go (fun kk => e_iv (w := b) (by rw [e2, Int32.toInt32_toInt64]) kk) ?_
  refine r_go (fun kk => e_istore (lv' := [(4, .int b), (3, .int (nI j)), (0, .ref F), (1, .int (nI i)), (2, .ref (Y.1 0))]) dX5_redo_21 (by decide) rfl kk) ?_
  refine r_go (fun kk => e_aload_n 2 dX5_redo_23 rfl kk) ?_
  refine r_go (fun kk => e_getP (some AN.1) dX5_redo_24 fl_X5_19 rfl hF hA kk) ?_
  refine r_go (fun kk => e_iload_n 3 dX5_redo_27 rfl kk) ?_
  refine r_go (fun kk => e_ic (nI 3) dX5_redo_28 (by decide) kk) ?_
  refine r_go (fun kk => e_callV (ci := 1) (st := []) (st1 := [.long (nf (4 * i + 3))]) (As := [.int (nI i), .int (nI 3)]) (k_notesGet (G := G) hN hi (j := 3) (by omega)) dX5_redo_29 (by decide) cm_X1_get lk_X5_215 im_X1_get rfl sel_X1_get hN.1.1 rfl rfl (Nat.le_of_ble_eq_true rfl) rfl kk) ?_
  refine r_go (fun kk => e_l2i dX5_redo_32 kk) ?_
  refine r_go (fun kk => e_iv (w := c) (by rw [e3, Int32.toInt32_toInt64]) kk) ?_
  refine r_go (fun kk => e_istore (lv' := [(5, .int c), (4, .int b), (3, .int (nI j)), (0, .ref F), (1, .int (nI i)), (2, .ref (Y.1 0))]) dX5_redo_33 (by decide) rfl kk) ?_
  refine r_go (fun kk => e_aload_n 5 dX5_redo_35 rfl kk) ?_
  refine r_go (fun kk => e_iload_n 2 dX5_redo_36 rfl kk) ?_
  refine r_go (fun kk => e_callV (ci := 0) (st := []) (st1 := [.ref (Y.1 (9 + j))]) (As := [.int (nI j)]) (k_taskAt (G := G) hq hj) dX5_redo_37 (by decide) cm_X0_taskAt lk_X5_112 im_X0_taskAt rfl sel_X0_taskAt (hq.T 0 (by decide)) rfl rfl (Nat.le_of_ble_eq_true rfl) rfl kk) ?_
  refine r_go (fun kk => e_astore (lv' := [(6, .ref (Y.1 (9 + j))), (5, .int c), (4, .int b), (3, .int (nI j)), (0, .ref F), (1, .int (nI i)), (2, .ref (Y.1 0))]) dX5_redo_40 (by decide) rfl kk) ?_
  refine r_go (fun kk => e_aload_n 6 dX5_redo_42 rfl kk) ?_
  refine r_go (fun kk => e_iload_n 3 dX5_redo_43 rfl kk) ?_
  refine r_go (fun kk => e_callV (ci := 0) (st := []) (st1 := [.null]) (As := [.int (nI j)]) (k_programAtN (G := G) hq hy) dX5_redo_44 (by decide) cm_X0_programAt lk_X5_39 im_X0_programAt rfl sel_X0_programAt (hq.T 0 (by decide)) rfl rfl (Nat.le_of_ble_eq_true rfl) rfl kk) ?_
  refine r_go (fun kk => e_astoreN (lv' := [(7, .null), (6, .ref (Y.1 (9 + j))), (5, .int c), (4, .int b), (3, .int (nI j)), (0, .ref F), (1, .int (nI i)), (2, .ref (Y.1 0))]) dX5_redo_47 (by decide) rfl kk) ?_
  refine r_go (fun kk => e_aload_n 5 dX5_redo_49 rfl kk) ?_
  refine r_go (fun kk => e_getP (some AN.1) dX5_redo_50 fl_X5_19 rfl hF hA kk) ?_
  refine r_go (fun kk => e_iload_n 6 dX5_redo_53 rfl kk) ?_
  refine r_go (fun kk => e_ic (nI 0) dX5_redo_54 (by decide) kk) ?_
  refine r_go (fun kk => e_callV (ci := 1) (st := []) (st1 := [.long (nf (4 * i + 0))]) (As := [.int (nI i), .int (nI 0)]) (k_notesGet (G := G) hN hi (j := 0) (by omega)) dX5_redo_55 (by decide) cm_X1_get lk_X5_215 im_X1_get rfl sel_X1_get hN.1.1 rfl rfl (Nat.le_of_ble_eq_true rfl) rfl kk) ?_
  refine r_go (fun kk => e_l2i dX5_redo_58 kk) ?_
  refine r_go (fun kk => e_iv (w := nI 1) (by rw [show nf (4 * i + 0) = _ from e0, lN_i]) kk) ?_
  refine r_go (fun kk => e_tabIn (off := 70) 129 dX5_redo_59 (by decide) (by decide) (by decide) (by decide) kk) ?_
  refine r_go (fun kk => e_aload_n 7 dX5_redo_129 rfl kk) ?_
  refine r_go (fun kk => e_iload_n 4 dX5_redo_130 rfl kk) ?_
  refine r_go (fun kk => e_iload 3 dX5_redo_131 rfl kk) ?_
  refine r_go (fun kk => e_iload 2 dX5_redo_133 rfl kk) ?_
  obtain ⟨_, m2, ⟨rfl, hq2⟩, E0x135⟩ := k_addTask (G := G) hq (by omega) hn3 (nI j) b c
  refine r_go (fun kk => e_callV (ci := 0) (st := []) (st1 := [.int (nI n)]) (As := [.int (nI j), .int b, .int c]) (E0x135) dX5_redo_135 (by decide) cm_X0_addTask lk_X5_68 im_X0_addTask rfl sel_X0_addTask (hq.T 0 (by decide)) rfl rfl (Nat.le_of_ble_eq_true rfl) rfl kk) ?_
  obtain ⟨Y2, hY2, hq2⟩ : ∃ Y2 : YY, Y2.1 0 = Y.1 0 ∧ KQ Z m2 Y2 102000 (adK k n (nI j) b c (nI 100) (nI 0)) (vp_updL v n (lvF k v n).2) (n + 1) := ⟨Y, rfl, hq2⟩
  refine r_go (fun kk => e_pop dX5_redo_138 rfl kk) ?_
  refine r_go (fun kk => e_goto 214 dX5_redo_139 (by decide) kk) ?_
  exact r_ret ⟨rfl, Y2, hY2, hq2⟩ (e_retV dX5_redo_214 rfl rfl)

set_option maxRecDepth 100000 in
set_option maxHeartbeats 4000000 in
theorem redo1NJ (hF : gT m F = 6) (hA : gP m 101 F = some AN.1) (hN : NS m o 10 AN s nf) (hq : KQ Z m Y 102000 k v n) (hi : i < s) {j : Nat} (hj31 : j < 2 ^ 31) (e1 : nf (4 * i + 1) = lN j) {b c : Int32} (hn3 : n < 200) (e2 : nf (4 * i + 2) = b.toInt64) (e3 : nf (4 * i + 3) = c.toInt64) (hx : tIn k (nI j) = false) (hp : j < 32) (e0 : nf (4 * i) = lN 1) : EvC G 6 uX5_redo [.ref F, .int (nI i), .ref (Y.1 0)] m (fun r mm => r = none ∧ ∃ Y2, Y2.1 0 = Y.1 0 ∧ KQ Z mm Y2 102000 (adK k n (nI j) b c (nI 100) (nI 0)) (vp_updL v n (lvF k v n).2) (n + 1)) := by
  refine EvC.of (by decide +kernel) (Nat.le_of_ble_eq_true rfl) ?_
  have hn2 := hq.n2
  have hs1 := hN.2.2.2.2.1
  refine r_go (fun kk => e_lvs (lv' := [(0, .ref F), (1, .int (nI i)), (2, .ref (Y.1 0))]) rfl kk) ?_
  refine r_go (fun kk => e_aload_n 0 dX5_redo_0 rfl kk) ?_
  refine r_go (fun kk => e_getP (some AN.1) dX5_redo_1 fl_X5_19 rfl hF hA kk) ?_
  refine r_go (fun kk => e_iload_n 1 dX5_redo_4 rfl kk) ?_
  refine r_go (fun kk => e_ic (nI 1) dX5_redo_5 (by decide) kk) ?_
  refine r_go (fun kk => e_callV (ci := 1) (st := []) (st1 := [.long (nf (4 * i + 1))]) (As := [.int (nI i), .int (nI 1)]) (k_notesGet (G := G) hN hi (j := 1) (by omega)) dX5_redo_6 (by decide) cm_X1_get lk_X5_215 im_X1_get rfl sel_X1_get hN.1.1 rfl rfl (Nat.le_of_ble_eq_true rfl) rfl kk) ?_
  refine r_go (fun kk => e_l2i dX5_redo_9 kk) ?_
  refine r_go (fun kk => e_iv (w := nI j) (by rw [e1, lN_i]) kk) ?_
  refine r_go (fun kk => e_istore_n (lv' := [(3, .int (nI j)), (0, .ref F), (1, .int (nI i)), (2, .ref (Y.1 0))]) dX5_redo_10 (by decide) rfl kk) ?_
  refine r_go (fun kk => e_aload_n 1 dX5_redo_11 rfl kk) ?_
  refine r_go (fun kk => e_getP (some AN.1) dX5_redo_12 fl_X5_19 rfl hF hA kk) ?_
  refine r_go (fun kk => e_iload_n 2 dX5_redo_15 rfl kk) ?_
  refine r_go (fun kk => e_ic (nI 2) dX5_redo_16 (by decide) kk) ?_
  refine r_go (fun kk => e_callV (ci := 1) (st := []) (st1 := [.long (nf (4 * i + 2))]) (As := [.int (nI i), .int (nI 2)]) (k_notesGet (G := G) hN hi (j := 2) (by omega)) dX5_redo_17 (by decide) cm_X1_get lk_X5_215 im_X1_get rfl sel_X1_get hN.1.1 rfl rfl (Nat.le_of_ble_eq_true rfl) rfl kk) ?_
  refine r_go (fun kk => e_l2i dX5_redo_20 kk) ?_
  refine r_go (fun kk => e_iv (w := b) (by rw [e2, Int32.toInt32_toInt64]) kk) ?_
  refine r_go (fun kk => e_istore (lv' := [(4, .int b), (3, .int (nI j)), (0, .ref F), (1, .int (nI i)), (2, .ref (Y.1 0))]) dX5_redo_21 (by decide) rfl kk) ?_
  refine r_go (fun kk => e_aload_n 2 dX5_redo_23 rfl kk) ?_
  refine r_go (fun kk => e_getP (some AN.1) dX5_redo_24 fl_X5_19 rfl hF hA kk) ?_
  refine r_go (fun kk => e_iload_n 3 dX5_redo_27 rfl kk) ?_
  refine r_go (fun kk => e_ic (nI 3) dX5_redo_28 (by decide) kk) ?_
  refine r_go (fun kk => e_callV (ci := 1) (st := []) (st1 := [.long (nf (4 * i + 3))]) (As := [.int (nI i), .int (nI 3)]) (k_notesGet (G := G) hN hi (j := 3) (by omega)) dX5_redo_29 (by decide) cm_X1_get lk_X5_215 im_X1_get rfl sel_X1_get hN.1.1 rfl rfl (Nat.le_of_ble_eq_true rfl) rfl kk) ?_
  refine r_go (fun kk => e_l2i dX5_redo_32 kk) ?_
  refine r_go (fun kk => e_iv (w := c) (by rw [e3, Int32.toInt32_toInt64]) kk) ?_
  refine r_go (fun kk => e_istore (lv' := [(5, .int c), (4, .int b), (3, .int (nI j)), (0, .ref F), (1, .int (nI i)), (2, .ref (Y.1 0))]) dX5_redo_33 (by decide) rfl kk) ?_
  refine r_go (fun kk => e_aload_n 5 dX5_redo_35 rfl kk) ?_
  refine r_go (fun kk => e_iload_n 2 dX5_redo_36 rfl kk) ?_
  refine r_go (fun kk => e_callV (ci := 0) (st := []) (st1 := [.null]) (As := [.int (nI j)]) (k_taskAtN (G := G) hq hx) dX5_redo_37 (by decide) cm_X0_taskAt lk_X5_112 im_X0_taskAt rfl sel_X0_taskAt (hq.T 0 (by decide)) rfl rfl (Nat.le_of_ble_eq_true rfl) rfl kk) ?_
  refine r_go (fun kk => e_astoreN (lv' := [(6, .null), (5, .int c), (4, .int b), (3, .int (nI j)), (0, .ref F), (1, .int (nI i)), (2, .ref (Y.1 0))]) dX5_redo_40 (by decide) rfl kk) ?_
  refine r_go (fun kk => e_aload_n 6 dX5_redo_42 rfl kk) ?_
  refine r_go (fun kk => e_iload_n 3 dX5_redo_43 rfl kk) ?_
  refine r_go (fun kk => e_callV (ci := 0) (st := []) (st1 := [.ref (Y.1 (209 + j))]) (As := [.int (nI j)]) (k_programAt (G := G) hq (j := j) (by omega)) dX5_redo_44 (by decide) cm_X0_programAt lk_X5_39 im_X0_programAt rfl sel_X0_programAt (hq.T 0 (by decide)) rfl rfl (Nat.le_of_ble_eq_true rfl) rfl kk) ?_
  refine r_go (fun kk => e_astore (lv' := [(7, .ref (Y.1 (209 + j))), (6, .null), (5, .int c), (4, .int b), (3, .int (nI j)), (0, .ref F), (1, .int (nI i)), (2, .ref (Y.1 0))]) dX5_redo_47 (by decide) rfl kk) ?_
  refine r_go (fun kk => e_aload_n 5 dX5_redo_49 rfl kk) ?_
  refine r_go (fun kk => e_getP (some AN.1) dX5_redo_50 fl_X5_19 rfl hF hA kk) ?_
  refine r_go (fun kk => e_iload_n 6 dX5_redo_53 rfl kk) ?_
  refine r_go (fun kk => e_ic (nI 0) dX5_redo_54 (by decide) kk) ?_
  refine r_go (fun kk => e_callV (ci := 1) (st := []) (st1 := [.long (nf (4 * i + 0))]) (As := [.int (nI i), .int (nI 0)]) (k_notesGet (G := G) hN hi (j := 0) (by omega)) dX5_redo_55 (by decide) cm_X1_get lk_X5_215 im_X1_get rfl sel_X1_get hN.1.1 rfl rfl (Nat.le_of_ble_eq_true rfl) rfl kk) ?_
  refine r_go (fun kk => e_l2i dX5_redo_58 kk) ?_
  refine r_go (fun kk => e_iv (w := nI 1) (by rw [show nf (4 * i + 0) = _ from e0, lN_i]) kk) ?_
  refine r_go (fun kk => e_tabIn (off := 70) 129 dX5_redo_59 (by decide) (by decide) (by decide) (by decide) kk) ?_
  refine r_go (fun kk => e_aload_n 7 dX5_redo_129 rfl kk) ?_
  refine r_go (fun kk => e_iload_n 4 dX5_redo_130 rfl kk) ?_
  refine r_go (fun kk => e_iload 3 dX5_redo_131 rfl kk) ?_
  refine r_go (fun kk => e_iload 2 dX5_redo_133 rfl kk) ?_
  obtain ⟨_, m2, ⟨rfl, hq2⟩, E0x135⟩ := k_addTask (G := G) hq (by omega) hn3 (nI j) b c
  refine r_go (fun kk => e_callV (ci := 0) (st := []) (st1 := [.int (nI n)]) (As := [.int (nI j), .int b, .int c]) (E0x135) dX5_redo_135 (by decide) cm_X0_addTask lk_X5_68 im_X0_addTask rfl sel_X0_addTask (hq.T 0 (by decide)) rfl rfl (Nat.le_of_ble_eq_true rfl) rfl kk) ?_
  obtain ⟨Y2, hY2, hq2⟩ : ∃ Y2 : YY, Y2.1 0 = Y.1 0 ∧ KQ Z m2 Y2 102000 (adK k n (nI j) b c (nI 100) (nI 0)) (vp_updL v n (lvF k v n).2) (n + 1) := ⟨Y, rfl, hq2⟩
  refine r_go (fun kk => e_pop dX5_redo_138 rfl kk) ?_
  refine r_go (fun kk => e_goto 214 dX5_redo_139 (by decide) kk) ?_
  exact r_ret ⟨rfl, Y2, hY2, hq2⟩ (e_retV dX5_redo_214 rfl rfl)

set_option maxRecDepth 100000 in
set_option maxHeartbeats 4000000 in
theorem redo1NN (hF : gT m F = 6) (hA : gP m 101 F = some AN.1) (hN : NS m o 10 AN s nf) (hq : KQ Z m Y 102000 k v n) (hi : i < s) {a : Int32} (e1 : nf (4 * i + 1) = a.toInt64) {b c : Int32} (hn3 : n < 200) (e2 : nf (4 * i + 2) = b.toInt64) (e3 : nf (4 * i + 3) = c.toInt64) (hx : tIn k a = false) (hy : inI a (nI 0) (nI 31) = false) (e0 : nf (4 * i) = lN 1) : EvC G 6 uX5_redo [.ref F, .int (nI i), .ref (Y.1 0)] m (fun r mm => r = none ∧ ∃ Y2, Y2.1 0 = Y.1 0 ∧ KQ Z mm Y2 102000 (adK k n a b c (nI 100) (nI 0)) (vp_updL v n (lvF k v n).2) (n + 1)) := by
  refine EvC.of (by decide +kernel) (Nat.le_of_ble_eq_true rfl) ?_
  have hn2 := hq.n2
  have hs1 := hN.2.2.2.2.1
  refine r_go (fun kk => e_lvs (lv' := [(0, .ref F), (1, .int (nI i)), (2, .ref (Y.1 0))]) rfl kk) ?_
  refine r_go (fun kk => e_aload_n 0 dX5_redo_0 rfl kk) ?_
  refine r_go (fun kk => e_getP (some AN.1) dX5_redo_1 fl_X5_19 rfl hF hA kk) ?_
  refine r_go (fun kk => e_iload_n 1 dX5_redo_4 rfl kk) ?_
  refine r_go (fun kk => e_ic (nI 1) dX5_redo_5 (by decide) kk) ?_
  refine r_go (fun kk => e_callV (ci := 1) (st := []) (st1 := [.long (nf (4 * i + 1))]) (As := [.int (nI i), .int (nI 1)]) (k_notesGet (G := G) hN hi (j := 1) (by omega)) dX5_redo_6 (by decide) cm_X1_get lk_X5_215 im_X1_get rfl sel_X1_get hN.1.1 rfl rfl (Nat.le_of_ble_eq_true rfl) rfl kk) ?_
  refine r_go (fun kk => e_l2i dX5_redo_9 kk) ?_
  refine r_go (fun kk => e_iv (w := a) (by rw [e1, Int32.toInt32_toInt64]) kk) ?_
  refine r_go (fun kk => e_istore_n (lv' := [(3, .int a), (0, .ref F), (1, .int (nI i)), (2, .ref (Y.1 0))]) dX5_redo_10 (by decide) rfl kk) ?_
  refine r_go (fun kk => e_aload_n 1 dX5_redo_11 rfl kk) ?_
  refine r_go (fun kk => e_getP (some AN.1) dX5_redo_12 fl_X5_19 rfl hF hA kk) ?_
  refine r_go (fun kk => e_iload_n 2 dX5_redo_15 rfl kk) ?_
  refine r_go (fun kk => e_ic (nI 2) dX5_redo_16 (by decide) kk) ?_
  refine r_go (fun kk => e_callV (ci := 1) (st := []) (st1 := [.long (nf (4 * i + 2))]) (As := [.int (nI i), .int (nI 2)]) (k_notesGet (G := G) hN hi (j := 2) (by omega)) dX5_redo_17 (by decide) cm_X1_get lk_X5_215 im_X1_get rfl sel_X1_get hN.1.1 rfl rfl (Nat.le_of_ble_eq_true rfl) rfl kk) ?_
  refine r_go (fun kk => e_l2i dX5_redo_20 kk) ?_
  refine r_go (fun kk => e_iv (w := b) (by rw [e2, Int32.toInt32_toInt64]) kk) ?_
  refine r_go (fun kk => e_istore (lv' := [(4, .int b), (3, .int a), (0, .ref F), (1, .int (nI i)), (2, .ref (Y.1 0))]) dX5_redo_21 (by decide) rfl kk) ?_
  refine r_go (fun kk => e_aload_n 2 dX5_redo_23 rfl kk) ?_
  refine r_go (fun kk => e_getP (some AN.1) dX5_redo_24 fl_X5_19 rfl hF hA kk) ?_
  refine r_go (fun kk => e_iload_n 3 dX5_redo_27 rfl kk) ?_
  refine r_go (fun kk => e_ic (nI 3) dX5_redo_28 (by decide) kk) ?_
  refine r_go (fun kk => e_callV (ci := 1) (st := []) (st1 := [.long (nf (4 * i + 3))]) (As := [.int (nI i), .int (nI 3)]) (k_notesGet (G := G) hN hi (j := 3) (by omega)) dX5_redo_29 (by decide) cm_X1_get lk_X5_215 im_X1_get rfl sel_X1_get hN.1.1 rfl rfl (Nat.le_of_ble_eq_true rfl) rfl kk) ?_
  refine r_go (fun kk => e_l2i dX5_redo_32 kk) ?_
  refine r_go (fun kk => e_iv (w := c) (by rw [e3, Int32.toInt32_toInt64]) kk) ?_
  refine r_go (fun kk => e_istore (lv' := [(5, .int c), (4, .int b), (3, .int a), (0, .ref F), (1, .int (nI i)), (2, .ref (Y.1 0))]) dX5_redo_33 (by decide) rfl kk) ?_
  refine r_go (fun kk => e_aload_n 5 dX5_redo_35 rfl kk) ?_
  refine r_go (fun kk => e_iload_n 2 dX5_redo_36 rfl kk) ?_
  refine r_go (fun kk => e_callV (ci := 0) (st := []) (st1 := [.null]) (As := [.int a]) (k_taskAtN (G := G) hq hx) dX5_redo_37 (by decide) cm_X0_taskAt lk_X5_112 im_X0_taskAt rfl sel_X0_taskAt (hq.T 0 (by decide)) rfl rfl (Nat.le_of_ble_eq_true rfl) rfl kk) ?_
  refine r_go (fun kk => e_astoreN (lv' := [(6, .null), (5, .int c), (4, .int b), (3, .int a), (0, .ref F), (1, .int (nI i)), (2, .ref (Y.1 0))]) dX5_redo_40 (by decide) rfl kk) ?_
  refine r_go (fun kk => e_aload_n 6 dX5_redo_42 rfl kk) ?_
  refine r_go (fun kk => e_iload_n 3 dX5_redo_43 rfl kk) ?_
  refine r_go (fun kk => e_callV (ci := 0) (st := []) (st1 := [.null]) (As := [.int a]) (k_programAtN (G := G) hq hy) dX5_redo_44 (by decide) cm_X0_programAt lk_X5_39 im_X0_programAt rfl sel_X0_programAt (hq.T 0 (by decide)) rfl rfl (Nat.le_of_ble_eq_true rfl) rfl kk) ?_
  refine r_go (fun kk => e_astoreN (lv' := [(7, .null), (6, .null), (5, .int c), (4, .int b), (3, .int a), (0, .ref F), (1, .int (nI i)), (2, .ref (Y.1 0))]) dX5_redo_47 (by decide) rfl kk) ?_
  refine r_go (fun kk => e_aload_n 5 dX5_redo_49 rfl kk) ?_
  refine r_go (fun kk => e_getP (some AN.1) dX5_redo_50 fl_X5_19 rfl hF hA kk) ?_
  refine r_go (fun kk => e_iload_n 6 dX5_redo_53 rfl kk) ?_
  refine r_go (fun kk => e_ic (nI 0) dX5_redo_54 (by decide) kk) ?_
  refine r_go (fun kk => e_callV (ci := 1) (st := []) (st1 := [.long (nf (4 * i + 0))]) (As := [.int (nI i), .int (nI 0)]) (k_notesGet (G := G) hN hi (j := 0) (by omega)) dX5_redo_55 (by decide) cm_X1_get lk_X5_215 im_X1_get rfl sel_X1_get hN.1.1 rfl rfl (Nat.le_of_ble_eq_true rfl) rfl kk) ?_
  refine r_go (fun kk => e_l2i dX5_redo_58 kk) ?_
  refine r_go (fun kk => e_iv (w := nI 1) (by rw [show nf (4 * i + 0) = _ from e0, lN_i]) kk) ?_
  refine r_go (fun kk => e_tabIn (off := 70) 129 dX5_redo_59 (by decide) (by decide) (by decide) (by decide) kk) ?_
  refine r_go (fun kk => e_aload_n 7 dX5_redo_129 rfl kk) ?_
  refine r_go (fun kk => e_iload_n 4 dX5_redo_130 rfl kk) ?_
  refine r_go (fun kk => e_iload 3 dX5_redo_131 rfl kk) ?_
  refine r_go (fun kk => e_iload 2 dX5_redo_133 rfl kk) ?_
  obtain ⟨_, m2, ⟨rfl, hq2⟩, E0x135⟩ := k_addTask (G := G) hq (by omega) hn3 a b c
  refine r_go (fun kk => e_callV (ci := 0) (st := []) (st1 := [.int (nI n)]) (As := [.int a, .int b, .int c]) (E0x135) dX5_redo_135 (by decide) cm_X0_addTask lk_X5_68 im_X0_addTask rfl sel_X0_addTask (hq.T 0 (by decide)) rfl rfl (Nat.le_of_ble_eq_true rfl) rfl kk) ?_
  obtain ⟨Y2, hY2, hq2⟩ : ∃ Y2 : YY, Y2.1 0 = Y.1 0 ∧ KQ Z m2 Y2 102000 (adK k n a b c (nI 100) (nI 0)) (vp_updL v n (lvF k v n).2) (n + 1) := ⟨Y, rfl, hq2⟩
  refine r_go (fun kk => e_pop dX5_redo_138 rfl kk) ?_
  refine r_go (fun kk => e_goto 214 dX5_redo_139 (by decide) kk) ?_
  exact r_ret ⟨rfl, Y2, hY2, hq2⟩ (e_retV dX5_redo_214 rfl rfl)

set_option maxRecDepth 100000 in
set_option maxHeartbeats 4000000 in
theorem redo2JJ (hF : gT m F = 6) (hA : gP m 101 F = some AN.1) (hN : NS m o 10 AN s nf) (hq : KQ Z m Y 102000 k v n) (hi : i < s) {j : Nat} (hj31 : j < 2 ^ 31) (e1 : nf (4 * i + 1) = lN j) {b : Int32} (e2 : nf (4 * i + 2) = b.toInt64) (hj : j < n) (hp : j < 32) (e0 : nf (4 * i) = lN 2) : EvC G 6 uX5_redo [.ref F, .int (nI i), .ref (Y.1 0)] m (fun r mm => r = none ∧ ∃ Y2, Y2.1 0 = Y.1 0 ∧ KQ Z mm Y2 102000 (shrK k j b) v n) := by
  refine EvC.of (by decide +kernel) (Nat.le_of_ble_eq_true rfl) ?_
  have hn2 := hq.n2
  have hs1 := hN.2.2.2.2.1
  refine r_go (fun kk => e_lvs (lv' := [(0, .ref F), (1, .int (nI i)), (2, .ref (Y.1 0))]) rfl kk) ?_
  refine r_go (fun kk => e_aload_n 0 dX5_redo_0 rfl kk) ?_
  refine r_go (fun kk => e_getP (some AN.1) dX5_redo_1 fl_X5_19 rfl hF hA kk) ?_
  refine r_go (fun kk => e_iload_n 1 dX5_redo_4 rfl kk) ?_
  refine r_go (fun kk => e_ic (nI 1) dX5_redo_5 (by decide) kk) ?_
  refine r_go (fun kk => e_callV (ci := 1) (st := []) (st1 := [.long (nf (4 * i + 1))]) (As := [.int (nI i), .int (nI 1)]) (k_notesGet (G := G) hN hi (j := 1) (by omega)) dX5_redo_6 (by decide) cm_X1_get lk_X5_215 im_X1_get rfl sel_X1_get hN.1.1 rfl rfl (Nat.le_of_ble_eq_true rfl) rfl kk) ?_
  refine r_go (fun kk => e_l2i dX5_redo_9 kk) ?_
  refine r_go (fun kk => e_iv (w := nI j) (by rw [e1, lN_i]) kk) ?_
  refine r_go (fun kk => e_istore_n (lv' := [(3, .int (nI j)), (0, .ref F), (1, .int (nI i)), (2, .ref (Y.1 0))]) dX5_redo_10 (by decide) rfl kk) ?_
  refine r_go (fun kk => e_aload_n 1 dX5_redo_11 rfl kk) ?_
  refine r_go (fun kk => e_getP (some AN.1) dX5_redo_12 fl_X5_19 rfl hF hA kk) ?_
  refine r_go (fun kk => e_iload_n 2 dX5_redo_15 rfl kk) ?_
  refine r_go (fun kk => e_ic (nI 2) dX5_redo_16 (by decide) kk) ?_
  refine r_go (fun kk => e_callV (ci := 1) (st := []) (st1 := [.long (nf (4 * i + 2))]) (As := [.int (nI i), .int (nI 2)]) (k_notesGet (G := G) hN hi (j := 2) (by omega)) dX5_redo_17 (by decide) cm_X1_get lk_X5_215 im_X1_get rfl sel_X1_get hN.1.1 rfl rfl (Nat.le_of_ble_eq_true rfl) rfl kk) ?_
  refine r_go (fun kk => e_l2i dX5_redo_20 kk) ?_
  refine r_go (fun kk => e_iv (w := b) (by rw [e2, Int32.toInt32_toInt64]) kk) ?_
  refine r_go (fun kk => e_istore (lv' := [(4, .int b), (3, .int (nI j)), (0, .ref F), (1, .int (nI i)), (2, .ref (Y.1 0))]) dX5_redo_21 (by decide) rfl kk) ?_
  refine r_go (fun kk => e_aload_n 2 dX5_redo_23 rfl kk) ?_
  refine r_go (fun kk => e_getP (some AN.1) dX5_redo_24 fl_X5_19 rfl hF hA kk) ?_
  refine r_go (fun kk => e_iload_n 3 dX5_redo_27 rfl kk) ?_
  refine r_go (fun kk => e_ic (nI 3) dX5_redo_28 (by decide) kk) ?_
  refine r_go (fun kk => e_callV (ci := 1) (st := []) (st1 := [.long (nf (4 * i + 3))]) (As := [.int (nI i), .int (nI 3)]) (k_notesGet (G := G) hN hi (j := 3) (by omega)) dX5_redo_29 (by decide) cm_X1_get lk_X5_215 im_X1_get rfl sel_X1_get hN.1.1 rfl rfl (Nat.le_of_ble_eq_true rfl) rfl kk) ?_
  refine r_go (fun kk => e_l2i dX5_redo_32 kk) ?_
  refine r_go (fun kk => e_istore (lv' := [(5, .int ((nf (4 * i + 3)).toInt32)), (4, .int b), (3, .int (nI j)), (0, .ref F), (1, .int (nI i)), (2, .ref (Y.1 0))]) dX5_redo_33 (by decide) rfl kk) ?_
  refine r_go (fun kk => e_aload_n 5 dX5_redo_35 rfl kk) ?_
  refine r_go (fun kk => e_iload_n 2 dX5_redo_36 rfl kk) ?_
  refine r_go (fun kk => e_callV (ci := 0) (st := []) (st1 := [.ref (Y.1 (9 + j))]) (As := [.int (nI j)]) (k_taskAt (G := G) hq hj) dX5_redo_37 (by decide) cm_X0_taskAt lk_X5_112 im_X0_taskAt rfl sel_X0_taskAt (hq.T 0 (by decide)) rfl rfl (Nat.le_of_ble_eq_true rfl) rfl kk) ?_
  refine r_go (fun kk => e_astore (lv' := [(6, .ref (Y.1 (9 + j))), (5, .int ((nf (4 * i + 3)).toInt32)), (4, .int b), (3, .int (nI j)), (0, .ref F), (1, .int (nI i)), (2, .ref (Y.1 0))]) dX5_redo_40 (by decide) rfl kk) ?_
  refine r_go (fun kk => e_aload_n 6 dX5_redo_42 rfl kk) ?_
  refine r_go (fun kk => e_iload_n 3 dX5_redo_43 rfl kk) ?_
  refine r_go (fun kk => e_callV (ci := 0) (st := []) (st1 := [.ref (Y.1 (209 + j))]) (As := [.int (nI j)]) (k_programAt (G := G) hq (j := j) (by omega)) dX5_redo_44 (by decide) cm_X0_programAt lk_X5_39 im_X0_programAt rfl sel_X0_programAt (hq.T 0 (by decide)) rfl rfl (Nat.le_of_ble_eq_true rfl) rfl kk) ?_
  refine r_go (fun kk => e_astore (lv' := [(7, .ref (Y.1 (209 + j))), (6, .ref (Y.1 (9 + j))), (5, .int ((nf (4 * i + 3)).toInt32)), (4, .int b), (3, .int (nI j)), (0, .ref F), (1, .int (nI i)), (2, .ref (Y.1 0))]) dX5_redo_47 (by decide) rfl kk) ?_
  refine r_go (fun kk => e_aload_n 5 dX5_redo_49 rfl kk) ?_
  refine r_go (fun kk => e_getP (some AN.1) dX5_redo_50 fl_X5_19 rfl hF hA kk) ?_
  refine r_go (fun kk => e_iload_n 6 dX5_redo_53 rfl kk) ?_
  refine r_go (fun kk => e_ic (nI 0) dX5_redo_54 (by decide) kk) ?_
  refine r_go (fun kk => e_callV (ci := 1) (st := []) (st1 := [.long (nf (4 * i + 0))]) (As := [.int (nI i), .int (nI 0)]) (k_notesGet (G := G) hN hi (j := 0) (by omega)) dX5_redo_55 (by decide) cm_X1_get lk_X5_215 im_X1_get rfl sel_X1_get hN.1.1 rfl rfl (Nat.le_of_ble_eq_true rfl) rfl kk) ?_
  refine r_go (fun kk => e_l2i dX5_redo_58 kk) ?_
  refine r_go (fun kk => e_iv (w := nI 2) (by rw [show nf (4 * i + 0) = _ from e0, lN_i]) kk) ?_
  refine r_go (fun kk => e_tabIn (off := 83) 142 dX5_redo_59 (by decide) (by decide) (by decide) (by decide) kk) ?_
  refine r_go (fun kk => e_aload 1 dX5_redo_142 rfl kk) ?_
  refine r_go (fun kk => e_ifnull dX5_redo_144 kk) ?_
  refine r_go (fun kk => e_aload 1 dX5_redo_147 rfl kk) ?_
  refine r_go (fun kk => e_iload 3 dX5_redo_149 rfl kk) ?_
  obtain ⟨_, m2, ⟨rfl, hq2⟩, E0x151⟩ := k_changeShare (G := G) hq (by omega) (t := j) hj b
  refine r_go (fun kk => e_callV (ci := 4) (st := []) (st1 := [.int (kg k j 2)]) (As := [.int b]) (E0x151) dX5_redo_151 (by decide) cm_X4_changeShare lk_X5_76 im_X4_changeShare rfl sel_X4_changeShare (hq.Tt (by omega)) rfl rfl (Nat.le_of_ble_eq_true rfl) rfl kk) ?_
  obtain ⟨Y2, hY2, hq2⟩ : ∃ Y2 : YY, Y2.1 0 = Y.1 0 ∧ KQ Z m2 Y2 102000 (shrK k j b) v n := ⟨Y, rfl, hq2⟩
  refine r_go (fun kk => e_pop dX5_redo_154 rfl kk) ?_
  refine r_go (fun kk => e_goto 214 dX5_redo_155 (by decide) kk) ?_
  exact r_ret ⟨rfl, Y2, hY2, hq2⟩ (e_retV dX5_redo_214 rfl rfl)

set_option maxRecDepth 100000 in
set_option maxHeartbeats 4000000 in
theorem redo3JJ (hF : gT m F = 6) (hA : gP m 101 F = some AN.1) (hN : NS m o 10 AN s nf) (hq : KQ Z m Y 102000 k v n) (hi : i < s) {j : Nat} (hj31 : j < 2 ^ 31) (e1 : nf (4 * i + 1) = lN j) {b c : Int32} (e2 : nf (4 * i + 2) = b.toInt64) (e3 : nf (4 * i + 3) = c.toInt64) (hj : j < n) (hp : j < 32) (e0 : nf (4 * i) = lN 3) : EvC G 6 uX5_redo [.ref F, .int (nI i), .ref (Y.1 0)] m (fun r mm => r = none ∧ ∃ Y2, Y2.1 0 = Y.1 0 ∧ KQ Z mm Y2 102000 (spK k j b c (k 0)) v n) := by
  refine EvC.of (by decide +kernel) (Nat.le_of_ble_eq_true rfl) ?_
  have hn2 := hq.n2
  have hs1 := hN.2.2.2.2.1
  refine r_go (fun kk => e_lvs (lv' := [(0, .ref F), (1, .int (nI i)), (2, .ref (Y.1 0))]) rfl kk) ?_
  refine r_go (fun kk => e_aload_n 0 dX5_redo_0 rfl kk) ?_
  refine r_go (fun kk => e_getP (some AN.1) dX5_redo_1 fl_X5_19 rfl hF hA kk) ?_
  refine r_go (fun kk => e_iload_n 1 dX5_redo_4 rfl kk) ?_
  refine r_go (fun kk => e_ic (nI 1) dX5_redo_5 (by decide) kk) ?_
  refine r_go (fun kk => e_callV (ci := 1) (st := []) (st1 := [.long (nf (4 * i + 1))]) (As := [.int (nI i), .int (nI 1)]) (k_notesGet (G := G) hN hi (j := 1) (by omega)) dX5_redo_6 (by decide) cm_X1_get lk_X5_215 im_X1_get rfl sel_X1_get hN.1.1 rfl rfl (Nat.le_of_ble_eq_true rfl) rfl kk) ?_
  refine r_go (fun kk => e_l2i dX5_redo_9 kk) ?_
  refine r_go (fun kk => e_iv (w := nI j) (by rw [e1, lN_i]) kk) ?_
  refine r_go (fun kk => e_istore_n (lv' := [(3, .int (nI j)), (0, .ref F), (1, .int (nI i)), (2, .ref (Y.1 0))]) dX5_redo_10 (by decide) rfl kk) ?_
  refine r_go (fun kk => e_aload_n 1 dX5_redo_11 rfl kk) ?_
  refine r_go (fun kk => e_getP (some AN.1) dX5_redo_12 fl_X5_19 rfl hF hA kk) ?_
  refine r_go (fun kk => e_iload_n 2 dX5_redo_15 rfl kk) ?_
  refine r_go (fun kk => e_ic (nI 2) dX5_redo_16 (by decide) kk) ?_
  refine r_go (fun kk => e_callV (ci := 1) (st := []) (st1 := [.long (nf (4 * i + 2))]) (As := [.int (nI i), .int (nI 2)]) (k_notesGet (G := G) hN hi (j := 2) (by omega)) dX5_redo_17 (by decide) cm_X1_get lk_X5_215 im_X1_get rfl sel_X1_get hN.1.1 rfl rfl (Nat.le_of_ble_eq_true rfl) rfl kk) ?_
  refine r_go (fun kk => e_l2i dX5_redo_20 kk) ?_
  refine r_go (fun kk => e_iv (w := b) (by rw [e2, Int32.toInt32_toInt64]) kk) ?_
  refine r_go (fun kk => e_istore (lv' := [(4, .int b), (3, .int (nI j)), (0, .ref F), (1, .int (nI i)), (2, .ref (Y.1 0))]) dX5_redo_21 (by decide) rfl kk) ?_
  refine r_go (fun kk => e_aload_n 2 dX5_redo_23 rfl kk) ?_
  refine r_go (fun kk => e_getP (some AN.1) dX5_redo_24 fl_X5_19 rfl hF hA kk) ?_
  refine r_go (fun kk => e_iload_n 3 dX5_redo_27 rfl kk) ?_
  refine r_go (fun kk => e_ic (nI 3) dX5_redo_28 (by decide) kk) ?_
  refine r_go (fun kk => e_callV (ci := 1) (st := []) (st1 := [.long (nf (4 * i + 3))]) (As := [.int (nI i), .int (nI 3)]) (k_notesGet (G := G) hN hi (j := 3) (by omega)) dX5_redo_29 (by decide) cm_X1_get lk_X5_215 im_X1_get rfl sel_X1_get hN.1.1 rfl rfl (Nat.le_of_ble_eq_true rfl) rfl kk) ?_
  refine r_go (fun kk => e_l2i dX5_redo_32 kk) ?_
  refine r_go (fun kk => e_iv (w := c) (by rw [e3, Int32.toInt32_toInt64]) kk) ?_
  refine r_go (fun kk => e_istore (lv' := [(5, .int c), (4, .int b), (3, .int (nI j)), (0, .ref F), (1, .int (nI i)), (2, .ref (Y.1 0))]) dX5_redo_33 (by decide) rfl kk) ?_
  refine r_go (fun kk => e_aload_n 5 dX5_redo_35 rfl kk) ?_
  refine r_go (fun kk => e_iload_n 2 dX5_redo_36 rfl kk) ?_
  refine r_go (fun kk => e_callV (ci := 0) (st := []) (st1 := [.ref (Y.1 (9 + j))]) (As := [.int (nI j)]) (k_taskAt (G := G) hq hj) dX5_redo_37 (by decide) cm_X0_taskAt lk_X5_112 im_X0_taskAt rfl sel_X0_taskAt (hq.T 0 (by decide)) rfl rfl (Nat.le_of_ble_eq_true rfl) rfl kk) ?_
  refine r_go (fun kk => e_astore (lv' := [(6, .ref (Y.1 (9 + j))), (5, .int c), (4, .int b), (3, .int (nI j)), (0, .ref F), (1, .int (nI i)), (2, .ref (Y.1 0))]) dX5_redo_40 (by decide) rfl kk) ?_
  refine r_go (fun kk => e_aload_n 6 dX5_redo_42 rfl kk) ?_
  refine r_go (fun kk => e_iload_n 3 dX5_redo_43 rfl kk) ?_
  refine r_go (fun kk => e_callV (ci := 0) (st := []) (st1 := [.ref (Y.1 (209 + j))]) (As := [.int (nI j)]) (k_programAt (G := G) hq (j := j) (by omega)) dX5_redo_44 (by decide) cm_X0_programAt lk_X5_39 im_X0_programAt rfl sel_X0_programAt (hq.T 0 (by decide)) rfl rfl (Nat.le_of_ble_eq_true rfl) rfl kk) ?_
  refine r_go (fun kk => e_astore (lv' := [(7, .ref (Y.1 (209 + j))), (6, .ref (Y.1 (9 + j))), (5, .int c), (4, .int b), (3, .int (nI j)), (0, .ref F), (1, .int (nI i)), (2, .ref (Y.1 0))]) dX5_redo_47 (by decide) rfl kk) ?_
  refine r_go (fun kk => e_aload_n 5 dX5_redo_49 rfl kk) ?_
  refine r_go (fun kk => e_getP (some AN.1) dX5_redo_50 fl_X5_19 rfl hF hA kk) ?_
  refine r_go (fun kk => e_iload_n 6 dX5_redo_53 rfl kk) ?_
  refine r_go (fun kk => e_ic (nI 0) dX5_redo_54 (by decide) kk) ?_
  refine r_go (fun kk => e_callV (ci := 1) (st := []) (st1 := [.long (nf (4 * i + 0))]) (As := [.int (nI i), .int (nI 0)]) (k_notesGet (G := G) hN hi (j := 0) (by omega)) dX5_redo_55 (by decide) cm_X1_get lk_X5_215 im_X1_get rfl sel_X1_get hN.1.1 rfl rfl (Nat.le_of_ble_eq_true rfl) rfl kk) ?_
  refine r_go (fun kk => e_l2i dX5_redo_58 kk) ?_
  refine r_go (fun kk => e_iv (w := nI 3) (by rw [show nf (4 * i + 0) = _ from e0, lN_i]) kk) ?_
  refine r_go (fun kk => e_tabIn (off := 99) 158 dX5_redo_59 (by decide) (by decide) (by decide) (by decide) kk) ?_
  refine r_go (fun kk => e_aload 1 dX5_redo_158 rfl kk) ?_
  refine r_go (fun kk => e_ifnull dX5_redo_160 kk) ?_
  refine r_go (fun kk => e_aload 1 dX5_redo_163 rfl kk) ?_
  refine r_go (fun kk => e_iload 3 dX5_redo_165 rfl kk) ?_
  refine r_go (fun kk => e_iload 2 dX5_redo_167 rfl kk) ?_
  refine r_go (fun kk => e_aload_n 7 dX5_redo_169 rfl kk) ?_
  refine r_go (fun kk => e_getIv (k 0) dX5_redo_170 fl_X5_85 rfl (hq.T 0 (by decide)) hq.2.1.1.1 kk) ?_
  obtain ⟨_, m2, ⟨rfl, hq2⟩, E0x173⟩ := k_startPeriod (G := G) hq (by omega) (t := j) hj b c (k 0)
  refine r_go (fun kk => e_callV (ci := 4) (st := []) (st1 := []) (As := [.int b, .int c, .int (k 0)]) (E0x173) dX5_redo_173 (by decide) cm_X4_startPeriod lk_X5_88 im_X4_startPeriod rfl sel_X4_startPeriod (hq.Tt (by omega)) rfl rfl (Nat.le_of_ble_eq_true rfl) rfl kk) ?_
  obtain ⟨Y2, hY2, hq2⟩ : ∃ Y2 : YY, Y2.1 0 = Y.1 0 ∧ KQ Z m2 Y2 102000 (spK k j b c (k 0)) v n := ⟨Y, rfl, hq2⟩
  refine r_go (fun kk => e_goto 214 dX5_redo_176 (by decide) kk) ?_
  exact r_ret ⟨rfl, Y2, hY2, hq2⟩ (e_retV dX5_redo_214 rfl rfl)

set_option maxRecDepth 100000 in
set_option maxHeartbeats 4000000 in
theorem redo2JN (hF : gT m F = 6) (hA : gP m 101 F = some AN.1) (hN : NS m o 10 AN s nf) (hq : KQ Z m Y 102000 k v n) (hi : i < s) {j : Nat} (hj31 : j < 2 ^ 31) (e1 : nf (4 * i + 1) = lN j) {b : Int32} (e2 : nf (4 * i + 2) = b.toInt64) (hj : j < n) (hy : inI (nI j) (nI 0) (nI 31) = false) (e0 : nf (4 * i) = lN 2) : EvC G 6 uX5_redo [.ref F, .int (nI i), .ref (Y.1 0)] m (fun r mm => r = none ∧ ∃ Y2, Y2.1 0 = Y.1 0 ∧ KQ Z mm Y2 102000 (shrK k j b) v n) := by
  refine EvC.of (by decide +kernel) (Nat.le_of_ble_eq_true rfl) ?_
  have hn2 := hq.n2
  have hs1 := hN.2.2.2.2.1
  refine r_go (fun kk => e_lvs (lv' := [(0, .ref F), (1, .int (nI i)), (2, .ref (Y.1 0))]) rfl kk) ?_
  refine r_go (fun kk => e_aload_n 0 dX5_redo_0 rfl kk) ?_
  refine r_go (fun kk => e_getP (some AN.1) dX5_redo_1 fl_X5_19 rfl hF hA kk) ?_
  refine r_go (fun kk => e_iload_n 1 dX5_redo_4 rfl kk) ?_
  refine r_go (fun kk => e_ic (nI 1) dX5_redo_5 (by decide) kk) ?_
  refine r_go (fun kk => e_callV (ci := 1) (st := []) (st1 := [.long (nf (4 * i + 1))]) (As := [.int (nI i), .int (nI 1)]) (k_notesGet (G := G) hN hi (j := 1) (by omega)) dX5_redo_6 (by decide) cm_X1_get lk_X5_215 im_X1_get rfl sel_X1_get hN.1.1 rfl rfl (Nat.le_of_ble_eq_true rfl) rfl kk) ?_
  refine r_go (fun kk => e_l2i dX5_redo_9 kk) ?_
  refine r_go (fun kk => e_iv (w := nI j) (by rw [e1, lN_i]) kk) ?_
  refine r_go (fun kk => e_istore_n (lv' := [(3, .int (nI j)), (0, .ref F), (1, .int (nI i)), (2, .ref (Y.1 0))]) dX5_redo_10 (by decide) rfl kk) ?_
  refine r_go (fun kk => e_aload_n 1 dX5_redo_11 rfl kk) ?_
  refine r_go (fun kk => e_getP (some AN.1) dX5_redo_12 fl_X5_19 rfl hF hA kk) ?_
  refine r_go (fun kk => e_iload_n 2 dX5_redo_15 rfl kk) ?_
  refine r_go (fun kk => e_ic (nI 2) dX5_redo_16 (by decide) kk) ?_
  refine r_go (fun kk => e_callV (ci := 1) (st := []) (st1 := [.long (nf (4 * i + 2))]) (As := [.int (nI i), .int (nI 2)]) (k_notesGet (G := G) hN hi (j := 2) (by omega)) dX5_redo_17 (by decide) cm_X1_get lk_X5_215 im_X1_get rfl sel_X1_get hN.1.1 rfl rfl (Nat.le_of_ble_eq_true rfl) rfl kk) ?_
  refine r_go (fun kk => e_l2i dX5_redo_20 kk) ?_
  refine r_go (fun kk => e_iv (w := b) (by rw [e2, Int32.toInt32_toInt64]) kk) ?_
  refine r_go (fun kk => e_istore (lv' := [(4, .int b), (3, .int (nI j)), (0, .ref F), (1, .int (nI i)), (2, .ref (Y.1 0))]) dX5_redo_21 (by decide) rfl kk) ?_
  refine r_go (fun kk => e_aload_n 2 dX5_redo_23 rfl kk) ?_
  refine r_go (fun kk => e_getP (some AN.1) dX5_redo_24 fl_X5_19 rfl hF hA kk) ?_
  refine r_go (fun kk => e_iload_n 3 dX5_redo_27 rfl kk) ?_
  refine r_go (fun kk => e_ic (nI 3) dX5_redo_28 (by decide) kk) ?_
  refine r_go (fun kk => e_callV (ci := 1) (st := []) (st1 := [.long (nf (4 * i + 3))]) (As := [.int (nI i), .int (nI 3)]) (k_notesGet (G := G) hN hi (j := 3) (by omega)) dX5_redo_29 (by decide) cm_X1_get lk_X5_215 im_X1_get rfl sel_X1_get hN.1.1 rfl rfl (Nat.le_of_ble_eq_true rfl) rfl kk) ?_
  refine r_go (fun kk => e_l2i dX5_redo_32 kk) ?_
  refine r_go (fun kk => e_istore (lv' := [(5, .int ((nf (4 * i + 3)).toInt32)), (4, .int b), (3, .int (nI j)), (0, .ref F), (1, .int (nI i)), (2, .ref (Y.1 0))]) dX5_redo_33 (by decide) rfl kk) ?_
  refine r_go (fun kk => e_aload_n 5 dX5_redo_35 rfl kk) ?_
  refine r_go (fun kk => e_iload_n 2 dX5_redo_36 rfl kk) ?_
  refine r_go (fun kk => e_callV (ci := 0) (st := []) (st1 := [.ref (Y.1 (9 + j))]) (As := [.int (nI j)]) (k_taskAt (G := G) hq hj) dX5_redo_37 (by decide) cm_X0_taskAt lk_X5_112 im_X0_taskAt rfl sel_X0_taskAt (hq.T 0 (by decide)) rfl rfl (Nat.le_of_ble_eq_true rfl) rfl kk) ?_
  refine r_go (fun kk => e_astore (lv' := [(6, .ref (Y.1 (9 + j))), (5, .int ((nf (4 * i + 3)).toInt32)), (4, .int b), (3, .int (nI j)), (0, .ref F), (1, .int (nI i)), (2, .ref (Y.1 0))]) dX5_redo_40 (by decide) rfl kk) ?_
  refine r_go (fun kk => e_aload_n 6 dX5_redo_42 rfl kk) ?_
  refine r_go (fun kk => e_iload_n 3 dX5_redo_43 rfl kk) ?_
  refine r_go (fun kk => e_callV (ci := 0) (st := []) (st1 := [.null]) (As := [.int (nI j)]) (k_programAtN (G := G) hq hy) dX5_redo_44 (by decide) cm_X0_programAt lk_X5_39 im_X0_programAt rfl sel_X0_programAt (hq.T 0 (by decide)) rfl rfl (Nat.le_of_ble_eq_true rfl) rfl kk) ?_
  refine r_go (fun kk => e_astoreN (lv' := [(7, .null), (6, .ref (Y.1 (9 + j))), (5, .int ((nf (4 * i + 3)).toInt32)), (4, .int b), (3, .int (nI j)), (0, .ref F), (1, .int (nI i)), (2, .ref (Y.1 0))]) dX5_redo_47 (by decide) rfl kk) ?_
  refine r_go (fun kk => e_aload_n 5 dX5_redo_49 rfl kk) ?_
  refine r_go (fun kk => e_getP (some AN.1) dX5_redo_50 fl_X5_19 rfl hF hA kk) ?_
  refine r_go (fun kk => e_iload_n 6 dX5_redo_53 rfl kk) ?_
  refine r_go (fun kk => e_ic (nI 0) dX5_redo_54 (by decide) kk) ?_
  refine r_go (fun kk => e_callV (ci := 1) (st := []) (st1 := [.long (nf (4 * i + 0))]) (As := [.int (nI i), .int (nI 0)]) (k_notesGet (G := G) hN hi (j := 0) (by omega)) dX5_redo_55 (by decide) cm_X1_get lk_X5_215 im_X1_get rfl sel_X1_get hN.1.1 rfl rfl (Nat.le_of_ble_eq_true rfl) rfl kk) ?_
  refine r_go (fun kk => e_l2i dX5_redo_58 kk) ?_
  refine r_go (fun kk => e_iv (w := nI 2) (by rw [show nf (4 * i + 0) = _ from e0, lN_i]) kk) ?_
  refine r_go (fun kk => e_tabIn (off := 83) 142 dX5_redo_59 (by decide) (by decide) (by decide) (by decide) kk) ?_
  refine r_go (fun kk => e_aload 1 dX5_redo_142 rfl kk) ?_
  refine r_go (fun kk => e_ifnull dX5_redo_144 kk) ?_
  refine r_go (fun kk => e_aload 1 dX5_redo_147 rfl kk) ?_
  refine r_go (fun kk => e_iload 3 dX5_redo_149 rfl kk) ?_
  obtain ⟨_, m2, ⟨rfl, hq2⟩, E0x151⟩ := k_changeShare (G := G) hq (by omega) (t := j) hj b
  refine r_go (fun kk => e_callV (ci := 4) (st := []) (st1 := [.int (kg k j 2)]) (As := [.int b]) (E0x151) dX5_redo_151 (by decide) cm_X4_changeShare lk_X5_76 im_X4_changeShare rfl sel_X4_changeShare (hq.Tt (by omega)) rfl rfl (Nat.le_of_ble_eq_true rfl) rfl kk) ?_
  obtain ⟨Y2, hY2, hq2⟩ : ∃ Y2 : YY, Y2.1 0 = Y.1 0 ∧ KQ Z m2 Y2 102000 (shrK k j b) v n := ⟨Y, rfl, hq2⟩
  refine r_go (fun kk => e_pop dX5_redo_154 rfl kk) ?_
  refine r_go (fun kk => e_goto 214 dX5_redo_155 (by decide) kk) ?_
  exact r_ret ⟨rfl, Y2, hY2, hq2⟩ (e_retV dX5_redo_214 rfl rfl)

set_option maxRecDepth 100000 in
set_option maxHeartbeats 4000000 in
theorem redo3JN (hF : gT m F = 6) (hA : gP m 101 F = some AN.1) (hN : NS m o 10 AN s nf) (hq : KQ Z m Y 102000 k v n) (hi : i < s) {j : Nat} (hj31 : j < 2 ^ 31) (e1 : nf (4 * i + 1) = lN j) {b c : Int32} (e2 : nf (4 * i + 2) = b.toInt64) (e3 : nf (4 * i + 3) = c.toInt64) (hj : j < n) (hy : inI (nI j) (nI 0) (nI 31) = false) (e0 : nf (4 * i) = lN 3) : EvC G 6 uX5_redo [.ref F, .int (nI i), .ref (Y.1 0)] m (fun r mm => r = none ∧ ∃ Y2, Y2.1 0 = Y.1 0 ∧ KQ Z mm Y2 102000 (spK k j b c (k 0)) v n) := by
  refine EvC.of (by decide +kernel) (Nat.le_of_ble_eq_true rfl) ?_
  have hn2 := hq.n2
  have hs1 := hN.2.2.2.2.1
  refine r_go (fun kk => e_lvs (lv' := [(0, .ref F), (1, .int (nI i)), (2, .ref (Y.1 0))]) rfl kk) ?_
  refine r_go (fun kk => e_aload_n 0 dX5_redo_0 rfl kk) ?_
  refine r_go (fun kk => e_getP (some AN.1) dX5_redo_1 fl_X5_19 rfl hF hA kk) ?_
  refine r_go (fun kk => e_iload_n 1 dX5_redo_4 rfl kk) ?_
  refine r_go (fun kk => e_ic (nI 1) dX5_redo_5 (by decide) kk) ?_
  refine r_go (fun kk => e_callV (ci := 1) (st := []) (st1 := [.long (nf (4 * i + 1))]) (As := [.int (nI i), .int (nI 1)]) (k_notesGet (G := G) hN hi (j := 1) (by omega)) dX5_redo_6 (by decide) cm_X1_get lk_X5_215 im_X1_get rfl sel_X1_get hN.1.1 rfl rfl (Nat.le_of_ble_eq_true rfl) rfl kk) ?_
  refine r_go (fun kk => e_l2i dX5_redo_9 kk) ?_
  refine r_go (fun kk => e_iv (w := nI j) (by rw [e1, lN_i]) kk) ?_
  refine r_go (fun kk => e_istore_n (lv' := [(3, .int (nI j)), (0, .ref F), (1, .int (nI i)), (2, .ref (Y.1 0))]) dX5_redo_10 (by decide) rfl kk) ?_
  refine r_go (fun kk => e_aload_n 1 dX5_redo_11 rfl kk) ?_
  refine r_go (fun kk => e_getP (some AN.1) dX5_redo_12 fl_X5_19 rfl hF hA kk) ?_
  refine r_go (fun kk => e_iload_n 2 dX5_redo_15 rfl kk) ?_
  refine r_go (fun kk => e_ic (nI 2) dX5_redo_16 (by decide) kk) ?_
  refine r_go (fun kk => e_callV (ci := 1) (st := []) (st1 := [.long (nf (4 * i + 2))]) (As := [.int (nI i), .int (nI 2)]) (k_notesGet (G := G) hN hi (j := 2) (by omega)) dX5_redo_17 (by decide) cm_X1_get lk_X5_215 im_X1_get rfl sel_X1_get hN.1.1 rfl rfl (Nat.le_of_ble_eq_true rfl) rfl kk) ?_
  refine r_go (fun kk => e_l2i dX5_redo_20 kk) ?_
  refine r_go (fun kk => e_iv (w := b) (by rw [e2, Int32.toInt32_toInt64]) kk) ?_
  refine r_go (fun kk => e_istore (lv' := [(4, .int b), (3, .int (nI j)), (0, .ref F), (1, .int (nI i)), (2, .ref (Y.1 0))]) dX5_redo_21 (by decide) rfl kk) ?_
  refine r_go (fun kk => e_aload_n 2 dX5_redo_23 rfl kk) ?_
  refine r_go (fun kk => e_getP (some AN.1) dX5_redo_24 fl_X5_19 rfl hF hA kk) ?_
  refine r_go (fun kk => e_iload_n 3 dX5_redo_27 rfl kk) ?_
  refine r_go (fun kk => e_ic (nI 3) dX5_redo_28 (by decide) kk) ?_
  refine r_go (fun kk => e_callV (ci := 1) (st := []) (st1 := [.long (nf (4 * i + 3))]) (As := [.int (nI i), .int (nI 3)]) (k_notesGet (G := G) hN hi (j := 3) (by omega)) dX5_redo_29 (by decide) cm_X1_get lk_X5_215 im_X1_get rfl sel_X1_get hN.1.1 rfl rfl (Nat.le_of_ble_eq_true rfl) rfl kk) ?_
  refine r_go (fun kk => e_l2i dX5_redo_32 kk) ?_
  refine r_go (fun kk => e_iv (w := c) (by rw [e3, Int32.toInt32_toInt64]) kk) ?_
  refine r_go (fun kk => e_istore (lv' := [(5, .int c), (4, .int b), (3, .int (nI j)), (0, .ref F), (1, .int (nI i)), (2, .ref (Y.1 0))]) dX5_redo_33 (by decide) rfl kk) ?_
  refine r_go (fun kk => e_aload_n 5 dX5_redo_35 rfl kk) ?_
  refine r_go (fun kk => e_iload_n 2 dX5_redo_36 rfl kk) ?_
  refine r_go (fun kk => e_callV (ci := 0) (st := []) (st1 := [.ref (Y.1 (9 + j))]) (As := [.int (nI j)]) (k_taskAt (G := G) hq hj) dX5_redo_37 (by decide) cm_X0_taskAt lk_X5_112 im_X0_taskAt rfl sel_X0_taskAt (hq.T 0 (by decide)) rfl rfl (Nat.le_of_ble_eq_true rfl) rfl kk) ?_
  refine r_go (fun kk => e_astore (lv' := [(6, .ref (Y.1 (9 + j))), (5, .int c), (4, .int b), (3, .int (nI j)), (0, .ref F), (1, .int (nI i)), (2, .ref (Y.1 0))]) dX5_redo_40 (by decide) rfl kk) ?_
  refine r_go (fun kk => e_aload_n 6 dX5_redo_42 rfl kk) ?_
  refine r_go (fun kk => e_iload_n 3 dX5_redo_43 rfl kk) ?_
  refine r_go (fun kk => e_callV (ci := 0) (st := []) (st1 := [.null]) (As := [.int (nI j)]) (k_programAtN (G := G) hq hy) dX5_redo_44 (by decide) cm_X0_programAt lk_X5_39 im_X0_programAt rfl sel_X0_programAt (hq.T 0 (by decide)) rfl rfl (Nat.le_of_ble_eq_true rfl) rfl kk) ?_
  refine r_go (fun kk => e_astoreN (lv' := [(7, .null), (6, .ref (Y.1 (9 + j))), (5, .int c), (4, .int b), (3, .int (nI j)), (0, .ref F), (1, .int (nI i)), (2, .ref (Y.1 0))]) dX5_redo_47 (by decide) rfl kk) ?_
  refine r_go (fun kk => e_aload_n 5 dX5_redo_49 rfl kk) ?_
  refine r_go (fun kk => e_getP (some AN.1) dX5_redo_50 fl_X5_19 rfl hF hA kk) ?_
  refine r_go (fun kk => e_iload_n 6 dX5_redo_53 rfl kk) ?_
  refine r_go (fun kk => e_ic (nI 0) dX5_redo_54 (by decide) kk) ?_
  refine r_go (fun kk => e_callV (ci := 1) (st := []) (st1 := [.long (nf (4 * i + 0))]) (As := [.int (nI i), .int (nI 0)]) (k_notesGet (G := G) hN hi (j := 0) (by omega)) dX5_redo_55 (by decide) cm_X1_get lk_X5_215 im_X1_get rfl sel_X1_get hN.1.1 rfl rfl (Nat.le_of_ble_eq_true rfl) rfl kk) ?_
  refine r_go (fun kk => e_l2i dX5_redo_58 kk) ?_
  refine r_go (fun kk => e_iv (w := nI 3) (by rw [show nf (4 * i + 0) = _ from e0, lN_i]) kk) ?_
  refine r_go (fun kk => e_tabIn (off := 99) 158 dX5_redo_59 (by decide) (by decide) (by decide) (by decide) kk) ?_
  refine r_go (fun kk => e_aload 1 dX5_redo_158 rfl kk) ?_
  refine r_go (fun kk => e_ifnull dX5_redo_160 kk) ?_
  refine r_go (fun kk => e_aload 1 dX5_redo_163 rfl kk) ?_
  refine r_go (fun kk => e_iload 3 dX5_redo_165 rfl kk) ?_
  refine r_go (fun kk => e_iload 2 dX5_redo_167 rfl kk) ?_
  refine r_go (fun kk => e_aload_n 7 dX5_redo_169 rfl kk) ?_
  refine r_go (fun kk => e_getIv (k 0) dX5_redo_170 fl_X5_85 rfl (hq.T 0 (by decide)) hq.2.1.1.1 kk) ?_
  obtain ⟨_, m2, ⟨rfl, hq2⟩, E0x173⟩ := k_startPeriod (G := G) hq (by omega) (t := j) hj b c (k 0)
  refine r_go (fun kk => e_callV (ci := 4) (st := []) (st1 := []) (As := [.int b, .int c, .int (k 0)]) (E0x173) dX5_redo_173 (by decide) cm_X4_startPeriod lk_X5_88 im_X4_startPeriod rfl sel_X4_startPeriod (hq.Tt (by omega)) rfl rfl (Nat.le_of_ble_eq_true rfl) rfl kk) ?_
  obtain ⟨Y2, hY2, hq2⟩ : ∃ Y2 : YY, Y2.1 0 = Y.1 0 ∧ KQ Z m2 Y2 102000 (spK k j b c (k 0)) v n := ⟨Y, rfl, hq2⟩
  refine r_go (fun kk => e_goto 214 dX5_redo_176 (by decide) kk) ?_
  exact r_ret ⟨rfl, Y2, hY2, hq2⟩ (e_retV dX5_redo_214 rfl rfl)

set_option maxRecDepth 100000 in
set_option maxHeartbeats 4000000 in
theorem redo4JJ (hF : gT m F = 6) (hA : gP m 101 F = some AN.1) (hN : NS m o 10 AN s nf) (hq : KQ Z m Y 102000 k v n) (hi : i < s) {j : Nat} (hj31 : j < 2 ^ 31) (e1 : nf (4 * i + 1) = lN j) (hj : j < n) (hp : j < 32) (e0 : nf (4 * i) = lN 4) : EvC G 6 uX5_redo [.ref F, .int (nI i), .ref (Y.1 0)] m (fun r mm => r = none ∧ ∃ Y2, Y2.1 0 = Y.1 0 ∧ KQ Z mm Y2 102000 (upd k 2 (nI j)) v n) := by
  refine EvC.of (by decide +kernel) (Nat.le_of_ble_eq_true rfl) ?_
  have hn2 := hq.n2
  have hs1 := hN.2.2.2.2.1
  refine r_go (fun kk => e_lvs (lv' := [(0, .ref F), (1, .int (nI i)), (2, .ref (Y.1 0))]) rfl kk) ?_
  refine r_go (fun kk => e_aload_n 0 dX5_redo_0 rfl kk) ?_
  refine r_go (fun kk => e_getP (some AN.1) dX5_redo_1 fl_X5_19 rfl hF hA kk) ?_
  refine r_go (fun kk => e_iload_n 1 dX5_redo_4 rfl kk) ?_
  refine r_go (fun kk => e_ic (nI 1) dX5_redo_5 (by decide) kk) ?_
  refine r_go (fun kk => e_callV (ci := 1) (st := []) (st1 := [.long (nf (4 * i + 1))]) (As := [.int (nI i), .int (nI 1)]) (k_notesGet (G := G) hN hi (j := 1) (by omega)) dX5_redo_6 (by decide) cm_X1_get lk_X5_215 im_X1_get rfl sel_X1_get hN.1.1 rfl rfl (Nat.le_of_ble_eq_true rfl) rfl kk) ?_
  refine r_go (fun kk => e_l2i dX5_redo_9 kk) ?_
  refine r_go (fun kk => e_iv (w := nI j) (by rw [e1, lN_i]) kk) ?_
  refine r_go (fun kk => e_istore_n (lv' := [(3, .int (nI j)), (0, .ref F), (1, .int (nI i)), (2, .ref (Y.1 0))]) dX5_redo_10 (by decide) rfl kk) ?_
  refine r_go (fun kk => e_aload_n 1 dX5_redo_11 rfl kk) ?_
  refine r_go (fun kk => e_getP (some AN.1) dX5_redo_12 fl_X5_19 rfl hF hA kk) ?_
  refine r_go (fun kk => e_iload_n 2 dX5_redo_15 rfl kk) ?_
  refine r_go (fun kk => e_ic (nI 2) dX5_redo_16 (by decide) kk) ?_
  refine r_go (fun kk => e_callV (ci := 1) (st := []) (st1 := [.long (nf (4 * i + 2))]) (As := [.int (nI i), .int (nI 2)]) (k_notesGet (G := G) hN hi (j := 2) (by omega)) dX5_redo_17 (by decide) cm_X1_get lk_X5_215 im_X1_get rfl sel_X1_get hN.1.1 rfl rfl (Nat.le_of_ble_eq_true rfl) rfl kk) ?_
  refine r_go (fun kk => e_l2i dX5_redo_20 kk) ?_
  refine r_go (fun kk => e_istore (lv' := [(4, .int ((nf (4 * i + 2)).toInt32)), (3, .int (nI j)), (0, .ref F), (1, .int (nI i)), (2, .ref (Y.1 0))]) dX5_redo_21 (by decide) rfl kk) ?_
  refine r_go (fun kk => e_aload_n 2 dX5_redo_23 rfl kk) ?_
  refine r_go (fun kk => e_getP (some AN.1) dX5_redo_24 fl_X5_19 rfl hF hA kk) ?_
  refine r_go (fun kk => e_iload_n 3 dX5_redo_27 rfl kk) ?_
  refine r_go (fun kk => e_ic (nI 3) dX5_redo_28 (by decide) kk) ?_
  refine r_go (fun kk => e_callV (ci := 1) (st := []) (st1 := [.long (nf (4 * i + 3))]) (As := [.int (nI i), .int (nI 3)]) (k_notesGet (G := G) hN hi (j := 3) (by omega)) dX5_redo_29 (by decide) cm_X1_get lk_X5_215 im_X1_get rfl sel_X1_get hN.1.1 rfl rfl (Nat.le_of_ble_eq_true rfl) rfl kk) ?_
  refine r_go (fun kk => e_l2i dX5_redo_32 kk) ?_
  refine r_go (fun kk => e_istore (lv' := [(5, .int ((nf (4 * i + 3)).toInt32)), (4, .int ((nf (4 * i + 2)).toInt32)), (3, .int (nI j)), (0, .ref F), (1, .int (nI i)), (2, .ref (Y.1 0))]) dX5_redo_33 (by decide) rfl kk) ?_
  refine r_go (fun kk => e_aload_n 5 dX5_redo_35 rfl kk) ?_
  refine r_go (fun kk => e_iload_n 2 dX5_redo_36 rfl kk) ?_
  refine r_go (fun kk => e_callV (ci := 0) (st := []) (st1 := [.ref (Y.1 (9 + j))]) (As := [.int (nI j)]) (k_taskAt (G := G) hq hj) dX5_redo_37 (by decide) cm_X0_taskAt lk_X5_112 im_X0_taskAt rfl sel_X0_taskAt (hq.T 0 (by decide)) rfl rfl (Nat.le_of_ble_eq_true rfl) rfl kk) ?_
  refine r_go (fun kk => e_astore (lv' := [(6, .ref (Y.1 (9 + j))), (5, .int ((nf (4 * i + 3)).toInt32)), (4, .int ((nf (4 * i + 2)).toInt32)), (3, .int (nI j)), (0, .ref F), (1, .int (nI i)), (2, .ref (Y.1 0))]) dX5_redo_40 (by decide) rfl kk) ?_
  refine r_go (fun kk => e_aload_n 6 dX5_redo_42 rfl kk) ?_
  refine r_go (fun kk => e_iload_n 3 dX5_redo_43 rfl kk) ?_
  refine r_go (fun kk => e_callV (ci := 0) (st := []) (st1 := [.ref (Y.1 (209 + j))]) (As := [.int (nI j)]) (k_programAt (G := G) hq (j := j) (by omega)) dX5_redo_44 (by decide) cm_X0_programAt lk_X5_39 im_X0_programAt rfl sel_X0_programAt (hq.T 0 (by decide)) rfl rfl (Nat.le_of_ble_eq_true rfl) rfl kk) ?_
  refine r_go (fun kk => e_astore (lv' := [(7, .ref (Y.1 (209 + j))), (6, .ref (Y.1 (9 + j))), (5, .int ((nf (4 * i + 3)).toInt32)), (4, .int ((nf (4 * i + 2)).toInt32)), (3, .int (nI j)), (0, .ref F), (1, .int (nI i)), (2, .ref (Y.1 0))]) dX5_redo_47 (by decide) rfl kk) ?_
  refine r_go (fun kk => e_aload_n 5 dX5_redo_49 rfl kk) ?_
  refine r_go (fun kk => e_getP (some AN.1) dX5_redo_50 fl_X5_19 rfl hF hA kk) ?_
  refine r_go (fun kk => e_iload_n 6 dX5_redo_53 rfl kk) ?_
  refine r_go (fun kk => e_ic (nI 0) dX5_redo_54 (by decide) kk) ?_
  refine r_go (fun kk => e_callV (ci := 1) (st := []) (st1 := [.long (nf (4 * i + 0))]) (As := [.int (nI i), .int (nI 0)]) (k_notesGet (G := G) hN hi (j := 0) (by omega)) dX5_redo_55 (by decide) cm_X1_get lk_X5_215 im_X1_get rfl sel_X1_get hN.1.1 rfl rfl (Nat.le_of_ble_eq_true rfl) rfl kk) ?_
  refine r_go (fun kk => e_l2i dX5_redo_58 kk) ?_
  refine r_go (fun kk => e_iv (w := nI 4) (by rw [show nf (4 * i + 0) = _ from e0, lN_i]) kk) ?_
  refine r_go (fun kk => e_tabIn (off := 120) 179 dX5_redo_59 (by decide) (by decide) (by decide) (by decide) kk) ?_
  refine r_go (fun kk => e_aload_n 7 dX5_redo_179 rfl kk) ?_
  refine r_go (fun kk => e_iload_n 4 dX5_redo_180 rfl kk) ?_
  obtain ⟨_, m2, ⟨rfl, hq2⟩, E0x181⟩ := k_changeProcessors (G := G) hq (by omega) (nI j)
  refine r_go (fun kk => e_callV (ci := 0) (st := []) (st1 := [.int (k 2)]) (As := [.int (nI j)]) (E0x181) dX5_redo_181 (by decide) cm_X0_changeProcessors lk_X5_92 im_X0_changeProcessors rfl sel_X0_changeProcessors (hq.T 0 (by decide)) rfl rfl (Nat.le_of_ble_eq_true rfl) rfl kk) ?_
  obtain ⟨Y2, hY2, hq2⟩ : ∃ Y2 : YY, Y2.1 0 = Y.1 0 ∧ KQ Z m2 Y2 102000 (upd k 2 (nI j)) v n := ⟨Y, rfl, hq2⟩
  refine r_go (fun kk => e_pop dX5_redo_184 rfl kk) ?_
  refine r_go (fun kk => e_goto 214 dX5_redo_185 (by decide) kk) ?_
  exact r_ret ⟨rfl, Y2, hY2, hq2⟩ (e_retV dX5_redo_214 rfl rfl)

set_option maxRecDepth 100000 in
set_option maxHeartbeats 4000000 in
theorem redo6JJ (hF : gT m F = 6) (hA : gP m 101 F = some AN.1) (hN : NS m o 10 AN s nf) (hq : KQ Z m Y 102000 k v n) (hi : i < s) {j : Nat} (hj31 : j < 2 ^ 31) (e1 : nf (4 * i + 1) = lN j) (hj : j < n) (hp : j < 32) (e0 : nf (4 * i) = lN 6) : EvC G 6 uX5_redo [.ref F, .int (nI i), .ref (Y.1 0)] m (fun r mm => r = none ∧ ∃ Y2, Y2.1 0 = Y.1 0 ∧ KQ Z mm Y2 102000 ((rgF k (nI j)).1) v n) := by
  refine EvC.of (by decide +kernel) (Nat.le_of_ble_eq_true rfl) ?_
  have hn2 := hq.n2
  have hs1 := hN.2.2.2.2.1
  refine r_go (fun kk => e_lvs (lv' := [(0, .ref F), (1, .int (nI i)), (2, .ref (Y.1 0))]) rfl kk) ?_
  refine r_go (fun kk => e_aload_n 0 dX5_redo_0 rfl kk) ?_
  refine r_go (fun kk => e_getP (some AN.1) dX5_redo_1 fl_X5_19 rfl hF hA kk) ?_
  refine r_go (fun kk => e_iload_n 1 dX5_redo_4 rfl kk) ?_
  refine r_go (fun kk => e_ic (nI 1) dX5_redo_5 (by decide) kk) ?_
  refine r_go (fun kk => e_callV (ci := 1) (st := []) (st1 := [.long (nf (4 * i + 1))]) (As := [.int (nI i), .int (nI 1)]) (k_notesGet (G := G) hN hi (j := 1) (by omega)) dX5_redo_6 (by decide) cm_X1_get lk_X5_215 im_X1_get rfl sel_X1_get hN.1.1 rfl rfl (Nat.le_of_ble_eq_true rfl) rfl kk) ?_
  refine r_go (fun kk => e_l2i dX5_redo_9 kk) ?_
  refine r_go (fun kk => e_iv (w := nI j) (by rw [e1, lN_i]) kk) ?_
  refine r_go (fun kk => e_istore_n (lv' := [(3, .int (nI j)), (0, .ref F), (1, .int (nI i)), (2, .ref (Y.1 0))]) dX5_redo_10 (by decide) rfl kk) ?_
  refine r_go (fun kk => e_aload_n 1 dX5_redo_11 rfl kk) ?_
  refine r_go (fun kk => e_getP (some AN.1) dX5_redo_12 fl_X5_19 rfl hF hA kk) ?_
  refine r_go (fun kk => e_iload_n 2 dX5_redo_15 rfl kk) ?_
  refine r_go (fun kk => e_ic (nI 2) dX5_redo_16 (by decide) kk) ?_
  refine r_go (fun kk => e_callV (ci := 1) (st := []) (st1 := [.long (nf (4 * i + 2))]) (As := [.int (nI i), .int (nI 2)]) (k_notesGet (G := G) hN hi (j := 2) (by omega)) dX5_redo_17 (by decide) cm_X1_get lk_X5_215 im_X1_get rfl sel_X1_get hN.1.1 rfl rfl (Nat.le_of_ble_eq_true rfl) rfl kk) ?_
  refine r_go (fun kk => e_l2i dX5_redo_20 kk) ?_
  refine r_go (fun kk => e_istore (lv' := [(4, .int ((nf (4 * i + 2)).toInt32)), (3, .int (nI j)), (0, .ref F), (1, .int (nI i)), (2, .ref (Y.1 0))]) dX5_redo_21 (by decide) rfl kk) ?_
  refine r_go (fun kk => e_aload_n 2 dX5_redo_23 rfl kk) ?_
  refine r_go (fun kk => e_getP (some AN.1) dX5_redo_24 fl_X5_19 rfl hF hA kk) ?_
  refine r_go (fun kk => e_iload_n 3 dX5_redo_27 rfl kk) ?_
  refine r_go (fun kk => e_ic (nI 3) dX5_redo_28 (by decide) kk) ?_
  refine r_go (fun kk => e_callV (ci := 1) (st := []) (st1 := [.long (nf (4 * i + 3))]) (As := [.int (nI i), .int (nI 3)]) (k_notesGet (G := G) hN hi (j := 3) (by omega)) dX5_redo_29 (by decide) cm_X1_get lk_X5_215 im_X1_get rfl sel_X1_get hN.1.1 rfl rfl (Nat.le_of_ble_eq_true rfl) rfl kk) ?_
  refine r_go (fun kk => e_l2i dX5_redo_32 kk) ?_
  refine r_go (fun kk => e_istore (lv' := [(5, .int ((nf (4 * i + 3)).toInt32)), (4, .int ((nf (4 * i + 2)).toInt32)), (3, .int (nI j)), (0, .ref F), (1, .int (nI i)), (2, .ref (Y.1 0))]) dX5_redo_33 (by decide) rfl kk) ?_
  refine r_go (fun kk => e_aload_n 5 dX5_redo_35 rfl kk) ?_
  refine r_go (fun kk => e_iload_n 2 dX5_redo_36 rfl kk) ?_
  refine r_go (fun kk => e_callV (ci := 0) (st := []) (st1 := [.ref (Y.1 (9 + j))]) (As := [.int (nI j)]) (k_taskAt (G := G) hq hj) dX5_redo_37 (by decide) cm_X0_taskAt lk_X5_112 im_X0_taskAt rfl sel_X0_taskAt (hq.T 0 (by decide)) rfl rfl (Nat.le_of_ble_eq_true rfl) rfl kk) ?_
  refine r_go (fun kk => e_astore (lv' := [(6, .ref (Y.1 (9 + j))), (5, .int ((nf (4 * i + 3)).toInt32)), (4, .int ((nf (4 * i + 2)).toInt32)), (3, .int (nI j)), (0, .ref F), (1, .int (nI i)), (2, .ref (Y.1 0))]) dX5_redo_40 (by decide) rfl kk) ?_
  refine r_go (fun kk => e_aload_n 6 dX5_redo_42 rfl kk) ?_
  refine r_go (fun kk => e_iload_n 3 dX5_redo_43 rfl kk) ?_
  refine r_go (fun kk => e_callV (ci := 0) (st := []) (st1 := [.ref (Y.1 (209 + j))]) (As := [.int (nI j)]) (k_programAt (G := G) hq (j := j) (by omega)) dX5_redo_44 (by decide) cm_X0_programAt lk_X5_39 im_X0_programAt rfl sel_X0_programAt (hq.T 0 (by decide)) rfl rfl (Nat.le_of_ble_eq_true rfl) rfl kk) ?_
  refine r_go (fun kk => e_astore (lv' := [(7, .ref (Y.1 (209 + j))), (6, .ref (Y.1 (9 + j))), (5, .int ((nf (4 * i + 3)).toInt32)), (4, .int ((nf (4 * i + 2)).toInt32)), (3, .int (nI j)), (0, .ref F), (1, .int (nI i)), (2, .ref (Y.1 0))]) dX5_redo_47 (by decide) rfl kk) ?_
  refine r_go (fun kk => e_aload_n 5 dX5_redo_49 rfl kk) ?_
  refine r_go (fun kk => e_getP (some AN.1) dX5_redo_50 fl_X5_19 rfl hF hA kk) ?_
  refine r_go (fun kk => e_iload_n 6 dX5_redo_53 rfl kk) ?_
  refine r_go (fun kk => e_ic (nI 0) dX5_redo_54 (by decide) kk) ?_
  refine r_go (fun kk => e_callV (ci := 1) (st := []) (st1 := [.long (nf (4 * i + 0))]) (As := [.int (nI i), .int (nI 0)]) (k_notesGet (G := G) hN hi (j := 0) (by omega)) dX5_redo_55 (by decide) cm_X1_get lk_X5_215 im_X1_get rfl sel_X1_get hN.1.1 rfl rfl (Nat.le_of_ble_eq_true rfl) rfl kk) ?_
  refine r_go (fun kk => e_l2i dX5_redo_58 kk) ?_
  refine r_go (fun kk => e_iv (w := nI 6) (by rw [show nf (4 * i + 0) = _ from e0, lN_i]) kk) ?_
  refine r_go (fun kk => e_tabIn (off := 137) 196 dX5_redo_59 (by decide) (by decide) (by decide) (by decide) kk) ?_
  refine r_go (fun kk => e_aload_n 7 dX5_redo_196 rfl kk) ?_
  refine r_go (fun kk => e_iload_n 4 dX5_redo_197 rfl kk) ?_
  obtain ⟨_, m2, ⟨c0, rfl, rfl, hq2⟩, E0x198⟩ := k_ringBell (G := G) hq (by omega) (nI j)
  refine r_go (fun kk => e_callV (ci := 0) (st := []) (st1 := [.int (nI ((rgF k (nI j)).2))]) (As := [.int (nI j)]) (E0x198) dX5_redo_198 (by decide) cm_X0_ringBell lk_X5_102 im_X0_ringBell rfl sel_X0_ringBell (hq.T 0 (by decide)) rfl rfl (Nat.le_of_ble_eq_true rfl) rfl kk) ?_
  obtain ⟨Y2, hY2, hq2⟩ : ∃ Y2 : YY, Y2.1 0 = Y.1 0 ∧ KQ Z m2 Y2 102000 ((rgF k (nI j)).1) v n := ⟨Y, rfl, hq2⟩
  refine r_go (fun kk => e_pop dX5_redo_201 rfl kk) ?_
  refine r_go (fun kk => e_goto 214 dX5_redo_202 (by decide) kk) ?_
  exact r_ret ⟨rfl, Y2, hY2, hq2⟩ (e_retV dX5_redo_214 rfl rfl)

set_option maxRecDepth 100000 in
set_option maxHeartbeats 4000000 in
theorem redo4JN (hF : gT m F = 6) (hA : gP m 101 F = some AN.1) (hN : NS m o 10 AN s nf) (hq : KQ Z m Y 102000 k v n) (hi : i < s) {j : Nat} (hj31 : j < 2 ^ 31) (e1 : nf (4 * i + 1) = lN j) (hj : j < n) (hy : inI (nI j) (nI 0) (nI 31) = false) (e0 : nf (4 * i) = lN 4) : EvC G 6 uX5_redo [.ref F, .int (nI i), .ref (Y.1 0)] m (fun r mm => r = none ∧ ∃ Y2, Y2.1 0 = Y.1 0 ∧ KQ Z mm Y2 102000 (upd k 2 (nI j)) v n) := by
  refine EvC.of (by decide +kernel) (Nat.le_of_ble_eq_true rfl) ?_
  have hn2 := hq.n2
  have hs1 := hN.2.2.2.2.1
  refine r_go (fun kk => e_lvs (lv' := [(0, .ref F), (1, .int (nI i)), (2, .ref (Y.1 0))]) rfl kk) ?_
  refine r_go (fun kk => e_aload_n 0 dX5_redo_0 rfl kk) ?_
  refine r_go (fun kk => e_getP (some AN.1) dX5_redo_1 fl_X5_19 rfl hF hA kk) ?_
  refine r_go (fun kk => e_iload_n 1 dX5_redo_4 rfl kk) ?_
  refine r_go (fun kk => e_ic (nI 1) dX5_redo_5 (by decide) kk) ?_
  refine r_go (fun kk => e_callV (ci := 1) (st := []) (st1 := [.long (nf (4 * i + 1))]) (As := [.int (nI i), .int (nI 1)]) (k_notesGet (G := G) hN hi (j := 1) (by omega)) dX5_redo_6 (by decide) cm_X1_get lk_X5_215 im_X1_get rfl sel_X1_get hN.1.1 rfl rfl (Nat.le_of_ble_eq_true rfl) rfl kk) ?_
  refine r_go (fun kk => e_l2i dX5_redo_9 kk) ?_
  refine r_go (fun kk => e_iv (w := nI j) (by rw [e1, lN_i]) kk) ?_
  refine r_go (fun kk => e_istore_n (lv' := [(3, .int (nI j)), (0, .ref F), (1, .int (nI i)), (2, .ref (Y.1 0))]) dX5_redo_10 (by decide) rfl kk) ?_
  refine r_go (fun kk => e_aload_n 1 dX5_redo_11 rfl kk) ?_
  refine r_go (fun kk => e_getP (some AN.1) dX5_redo_12 fl_X5_19 rfl hF hA kk) ?_
  refine r_go (fun kk => e_iload_n 2 dX5_redo_15 rfl kk) ?_
  refine r_go (fun kk => e_ic (nI 2) dX5_redo_16 (by decide) kk) ?_
  refine r_go (fun kk => e_callV (ci := 1) (st := []) (st1 := [.long (nf (4 * i + 2))]) (As := [.int (nI i), .int (nI 2)]) (k_notesGet (G := G) hN hi (j := 2) (by omega)) dX5_redo_17 (by decide) cm_X1_get lk_X5_215 im_X1_get rfl sel_X1_get hN.1.1 rfl rfl (Nat.le_of_ble_eq_true rfl) rfl kk) ?_
  refine r_go (fun kk => e_l2i dX5_redo_20 kk) ?_
  refine r_go (fun kk => e_istore (lv' := [(4, .int ((nf (4 * i + 2)).toInt32)), (3, .int (nI j)), (0, .ref F), (1, .int (nI i)), (2, .ref (Y.1 0))]) dX5_redo_21 (by decide) rfl kk) ?_
  refine r_go (fun kk => e_aload_n 2 dX5_redo_23 rfl kk) ?_
  refine r_go (fun kk => e_getP (some AN.1) dX5_redo_24 fl_X5_19 rfl hF hA kk) ?_
  refine r_go (fun kk => e_iload_n 3 dX5_redo_27 rfl kk) ?_
  refine r_go (fun kk => e_ic (nI 3) dX5_redo_28 (by decide) kk) ?_
  refine r_go (fun kk => e_callV (ci := 1) (st := []) (st1 := [.long (nf (4 * i + 3))]) (As := [.int (nI i), .int (nI 3)]) (k_notesGet (G := G) hN hi (j := 3) (by omega)) dX5_redo_29 (by decide) cm_X1_get lk_X5_215 im_X1_get rfl sel_X1_get hN.1.1 rfl rfl (Nat.le_of_ble_eq_true rfl) rfl kk) ?_
  refine r_go (fun kk => e_l2i dX5_redo_32 kk) ?_
  refine r_go (fun kk => e_istore (lv' := [(5, .int ((nf (4 * i + 3)).toInt32)), (4, .int ((nf (4 * i + 2)).toInt32)), (3, .int (nI j)), (0, .ref F), (1, .int (nI i)), (2, .ref (Y.1 0))]) dX5_redo_33 (by decide) rfl kk) ?_
  refine r_go (fun kk => e_aload_n 5 dX5_redo_35 rfl kk) ?_
  refine r_go (fun kk => e_iload_n 2 dX5_redo_36 rfl kk) ?_
  refine r_go (fun kk => e_callV (ci := 0) (st := []) (st1 := [.ref (Y.1 (9 + j))]) (As := [.int (nI j)]) (k_taskAt (G := G) hq hj) dX5_redo_37 (by decide) cm_X0_taskAt lk_X5_112 im_X0_taskAt rfl sel_X0_taskAt (hq.T 0 (by decide)) rfl rfl (Nat.le_of_ble_eq_true rfl) rfl kk) ?_
  refine r_go (fun kk => e_astore (lv' := [(6, .ref (Y.1 (9 + j))), (5, .int ((nf (4 * i + 3)).toInt32)), (4, .int ((nf (4 * i + 2)).toInt32)), (3, .int (nI j)), (0, .ref F), (1, .int (nI i)), (2, .ref (Y.1 0))]) dX5_redo_40 (by decide) rfl kk) ?_
  refine r_go (fun kk => e_aload_n 6 dX5_redo_42 rfl kk) ?_
  refine r_go (fun kk => e_iload_n 3 dX5_redo_43 rfl kk) ?_
  refine r_go (fun kk => e_callV (ci := 0) (st := []) (st1 := [.null]) (As := [.int (nI j)]) (k_programAtN (G := G) hq hy) dX5_redo_44 (by decide) cm_X0_programAt lk_X5_39 im_X0_programAt rfl sel_X0_programAt (hq.T 0 (by decide)) rfl rfl (Nat.le_of_ble_eq_true rfl) rfl kk) ?_
  refine r_go (fun kk => e_astoreN (lv' := [(7, .null), (6, .ref (Y.1 (9 + j))), (5, .int ((nf (4 * i + 3)).toInt32)), (4, .int ((nf (4 * i + 2)).toInt32)), (3, .int (nI j)), (0, .ref F), (1, .int (nI i)), (2, .ref (Y.1 0))]) dX5_redo_47 (by decide) rfl kk) ?_
  refine r_go (fun kk => e_aload_n 5 dX5_redo_49 rfl kk) ?_
  refine r_go (fun kk => e_getP (some AN.1) dX5_redo_50 fl_X5_19 rfl hF hA kk) ?_
  refine r_go (fun kk => e_iload_n 6 dX5_redo_53 rfl kk) ?_
  refine r_go (fun kk => e_ic (nI 0) dX5_redo_54 (by decide) kk) ?_
  refine r_go (fun kk => e_callV (ci := 1) (st := []) (st1 := [.long (nf (4 * i + 0))]) (As := [.int (nI i), .int (nI 0)]) (k_notesGet (G := G) hN hi (j := 0) (by omega)) dX5_redo_55 (by decide) cm_X1_get lk_X5_215 im_X1_get rfl sel_X1_get hN.1.1 rfl rfl (Nat.le_of_ble_eq_true rfl) rfl kk) ?_
  refine r_go (fun kk => e_l2i dX5_redo_58 kk) ?_
  refine r_go (fun kk => e_iv (w := nI 4) (by rw [show nf (4 * i + 0) = _ from e0, lN_i]) kk) ?_
  refine r_go (fun kk => e_tabIn (off := 120) 179 dX5_redo_59 (by decide) (by decide) (by decide) (by decide) kk) ?_
  refine r_go (fun kk => e_aload_n 7 dX5_redo_179 rfl kk) ?_
  refine r_go (fun kk => e_iload_n 4 dX5_redo_180 rfl kk) ?_
  obtain ⟨_, m2, ⟨rfl, hq2⟩, E0x181⟩ := k_changeProcessors (G := G) hq (by omega) (nI j)
  refine r_go (fun kk => e_callV (ci := 0) (st := []) (st1 := [.int (k 2)]) (As := [.int (nI j)]) (E0x181) dX5_redo_181 (by decide) cm_X0_changeProcessors lk_X5_92 im_X0_changeProcessors rfl sel_X0_changeProcessors (hq.T 0 (by decide)) rfl rfl (Nat.le_of_ble_eq_true rfl) rfl kk) ?_
  obtain ⟨Y2, hY2, hq2⟩ : ∃ Y2 : YY, Y2.1 0 = Y.1 0 ∧ KQ Z m2 Y2 102000 (upd k 2 (nI j)) v n := ⟨Y, rfl, hq2⟩
  refine r_go (fun kk => e_pop dX5_redo_184 rfl kk) ?_
  refine r_go (fun kk => e_goto 214 dX5_redo_185 (by decide) kk) ?_
  exact r_ret ⟨rfl, Y2, hY2, hq2⟩ (e_retV dX5_redo_214 rfl rfl)

set_option maxRecDepth 100000 in
set_option maxHeartbeats 4000000 in
theorem redo6JN (hF : gT m F = 6) (hA : gP m 101 F = some AN.1) (hN : NS m o 10 AN s nf) (hq : KQ Z m Y 102000 k v n) (hi : i < s) {j : Nat} (hj31 : j < 2 ^ 31) (e1 : nf (4 * i + 1) = lN j) (hj : j < n) (hy : inI (nI j) (nI 0) (nI 31) = false) (e0 : nf (4 * i) = lN 6) : EvC G 6 uX5_redo [.ref F, .int (nI i), .ref (Y.1 0)] m (fun r mm => r = none ∧ ∃ Y2, Y2.1 0 = Y.1 0 ∧ KQ Z mm Y2 102000 ((rgF k (nI j)).1) v n) := by
  refine EvC.of (by decide +kernel) (Nat.le_of_ble_eq_true rfl) ?_
  have hn2 := hq.n2
  have hs1 := hN.2.2.2.2.1
  refine r_go (fun kk => e_lvs (lv' := [(0, .ref F), (1, .int (nI i)), (2, .ref (Y.1 0))]) rfl kk) ?_
  refine r_go (fun kk => e_aload_n 0 dX5_redo_0 rfl kk) ?_
  refine r_go (fun kk => e_getP (some AN.1) dX5_redo_1 fl_X5_19 rfl hF hA kk) ?_
  refine r_go (fun kk => e_iload_n 1 dX5_redo_4 rfl kk) ?_
  refine r_go (fun kk => e_ic (nI 1) dX5_redo_5 (by decide) kk) ?_
  refine r_go (fun kk => e_callV (ci := 1) (st := []) (st1 := [.long (nf (4 * i + 1))]) (As := [.int (nI i), .int (nI 1)]) (k_notesGet (G := G) hN hi (j := 1) (by omega)) dX5_redo_6 (by decide) cm_X1_get lk_X5_215 im_X1_get rfl sel_X1_get hN.1.1 rfl rfl (Nat.le_of_ble_eq_true rfl) rfl kk) ?_
  refine r_go (fun kk => e_l2i dX5_redo_9 kk) ?_
  refine r_go (fun kk => e_iv (w := nI j) (by rw [e1, lN_i]) kk) ?_
  refine r_go (fun kk => e_istore_n (lv' := [(3, .int (nI j)), (0, .ref F), (1, .int (nI i)), (2, .ref (Y.1 0))]) dX5_redo_10 (by decide) rfl kk) ?_
  refine r_go (fun kk => e_aload_n 1 dX5_redo_11 rfl kk) ?_
  refine r_go (fun kk => e_getP (some AN.1) dX5_redo_12 fl_X5_19 rfl hF hA kk) ?_
  refine r_go (fun kk => e_iload_n 2 dX5_redo_15 rfl kk) ?_
  refine r_go (fun kk => e_ic (nI 2) dX5_redo_16 (by decide) kk) ?_
  refine r_go (fun kk => e_callV (ci := 1) (st := []) (st1 := [.long (nf (4 * i + 2))]) (As := [.int (nI i), .int (nI 2)]) (k_notesGet (G := G) hN hi (j := 2) (by omega)) dX5_redo_17 (by decide) cm_X1_get lk_X5_215 im_X1_get rfl sel_X1_get hN.1.1 rfl rfl (Nat.le_of_ble_eq_true rfl) rfl kk) ?_
  refine r_go (fun kk => e_l2i dX5_redo_20 kk) ?_
  refine r_go (fun kk => e_istore (lv' := [(4, .int ((nf (4 * i + 2)).toInt32)), (3, .int (nI j)), (0, .ref F), (1, .int (nI i)), (2, .ref (Y.1 0))]) dX5_redo_21 (by decide) rfl kk) ?_
  refine r_go (fun kk => e_aload_n 2 dX5_redo_23 rfl kk) ?_
  refine r_go (fun kk => e_getP (some AN.1) dX5_redo_24 fl_X5_19 rfl hF hA kk) ?_
  refine r_go (fun kk => e_iload_n 3 dX5_redo_27 rfl kk) ?_
  refine r_go (fun kk => e_ic (nI 3) dX5_redo_28 (by decide) kk) ?_
  refine r_go (fun kk => e_callV (ci := 1) (st := []) (st1 := [.long (nf (4 * i + 3))]) (As := [.int (nI i), .int (nI 3)]) (k_notesGet (G := G) hN hi (j := 3) (by omega)) dX5_redo_29 (by decide) cm_X1_get lk_X5_215 im_X1_get rfl sel_X1_get hN.1.1 rfl rfl (Nat.le_of_ble_eq_true rfl) rfl kk) ?_
  refine r_go (fun kk => e_l2i dX5_redo_32 kk) ?_
  refine r_go (fun kk => e_istore (lv' := [(5, .int ((nf (4 * i + 3)).toInt32)), (4, .int ((nf (4 * i + 2)).toInt32)), (3, .int (nI j)), (0, .ref F), (1, .int (nI i)), (2, .ref (Y.1 0))]) dX5_redo_33 (by decide) rfl kk) ?_
  refine r_go (fun kk => e_aload_n 5 dX5_redo_35 rfl kk) ?_
  refine r_go (fun kk => e_iload_n 2 dX5_redo_36 rfl kk) ?_
  refine r_go (fun kk => e_callV (ci := 0) (st := []) (st1 := [.ref (Y.1 (9 + j))]) (As := [.int (nI j)]) (k_taskAt (G := G) hq hj) dX5_redo_37 (by decide) cm_X0_taskAt lk_X5_112 im_X0_taskAt rfl sel_X0_taskAt (hq.T 0 (by decide)) rfl rfl (Nat.le_of_ble_eq_true rfl) rfl kk) ?_
  refine r_go (fun kk => e_astore (lv' := [(6, .ref (Y.1 (9 + j))), (5, .int ((nf (4 * i + 3)).toInt32)), (4, .int ((nf (4 * i + 2)).toInt32)), (3, .int (nI j)), (0, .ref F), (1, .int (nI i)), (2, .ref (Y.1 0))]) dX5_redo_40 (by decide) rfl kk) ?_
  refine r_go (fun kk => e_aload_n 6 dX5_redo_42 rfl kk) ?_
  refine r_go (fun kk => e_iload_n 3 dX5_redo_43 rfl kk) ?_
  refine r_go (fun kk => e_callV (ci := 0) (st := []) (st1 := [.null]) (As := [.int (nI j)]) (k_programAtN (G := G) hq hy) dX5_redo_44 (by decide) cm_X0_programAt lk_X5_39 im_X0_programAt rfl sel_X0_programAt (hq.T 0 (by decide)) rfl rfl (Nat.le_of_ble_eq_true rfl) rfl kk) ?_
  refine r_go (fun kk => e_astoreN (lv' := [(7, .null), (6, .ref (Y.1 (9 + j))), (5, .int ((nf (4 * i + 3)).toInt32)), (4, .int ((nf (4 * i + 2)).toInt32)), (3, .int (nI j)), (0, .ref F), (1, .int (nI i)), (2, .ref (Y.1 0))]) dX5_redo_47 (by decide) rfl kk) ?_
  refine r_go (fun kk => e_aload_n 5 dX5_redo_49 rfl kk) ?_
  refine r_go (fun kk => e_getP (some AN.1) dX5_redo_50 fl_X5_19 rfl hF hA kk) ?_
  refine r_go (fun kk => e_iload_n 6 dX5_redo_53 rfl kk) ?_
  refine r_go (fun kk => e_ic (nI 0) dX5_redo_54 (by decide) kk) ?_
  refine r_go (fun kk => e_callV (ci := 1) (st := []) (st1 := [.long (nf (4 * i + 0))]) (As := [.int (nI i), .int (nI 0)]) (k_notesGet (G := G) hN hi (j := 0) (by omega)) dX5_redo_55 (by decide) cm_X1_get lk_X5_215 im_X1_get rfl sel_X1_get hN.1.1 rfl rfl (Nat.le_of_ble_eq_true rfl) rfl kk) ?_
  refine r_go (fun kk => e_l2i dX5_redo_58 kk) ?_
  refine r_go (fun kk => e_iv (w := nI 6) (by rw [show nf (4 * i + 0) = _ from e0, lN_i]) kk) ?_
  refine r_go (fun kk => e_tabIn (off := 137) 196 dX5_redo_59 (by decide) (by decide) (by decide) (by decide) kk) ?_
  refine r_go (fun kk => e_aload_n 7 dX5_redo_196 rfl kk) ?_
  refine r_go (fun kk => e_iload_n 4 dX5_redo_197 rfl kk) ?_
  obtain ⟨_, m2, ⟨c0, rfl, rfl, hq2⟩, E0x198⟩ := k_ringBell (G := G) hq (by omega) (nI j)
  refine r_go (fun kk => e_callV (ci := 0) (st := []) (st1 := [.int (nI ((rgF k (nI j)).2))]) (As := [.int (nI j)]) (E0x198) dX5_redo_198 (by decide) cm_X0_ringBell lk_X5_102 im_X0_ringBell rfl sel_X0_ringBell (hq.T 0 (by decide)) rfl rfl (Nat.le_of_ble_eq_true rfl) rfl kk) ?_
  obtain ⟨Y2, hY2, hq2⟩ : ∃ Y2 : YY, Y2.1 0 = Y.1 0 ∧ KQ Z m2 Y2 102000 ((rgF k (nI j)).1) v n := ⟨Y, rfl, hq2⟩
  refine r_go (fun kk => e_pop dX5_redo_201 rfl kk) ?_
  refine r_go (fun kk => e_goto 214 dX5_redo_202 (by decide) kk) ?_
  exact r_ret ⟨rfl, Y2, hY2, hq2⟩ (e_retV dX5_redo_214 rfl rfl)

set_option maxRecDepth 100000 in
set_option maxHeartbeats 4000000 in
theorem redo4NJ (hF : gT m F = 6) (hA : gP m 101 F = some AN.1) (hN : NS m o 10 AN s nf) (hq : KQ Z m Y 102000 k v n) (hi : i < s) {j : Nat} (hj31 : j < 2 ^ 31) (e1 : nf (4 * i + 1) = lN j) (hx : tIn k (nI j) = false) (hp : j < 32) (e0 : nf (4 * i) = lN 4) : EvC G 6 uX5_redo [.ref F, .int (nI i), .ref (Y.1 0)] m (fun r mm => r = none ∧ ∃ Y2, Y2.1 0 = Y.1 0 ∧ KQ Z mm Y2 102000 (upd k 2 (nI j)) v n) := by
  refine EvC.of (by decide +kernel) (Nat.le_of_ble_eq_true rfl) ?_
  have hn2 := hq.n2
  have hs1 := hN.2.2.2.2.1
  refine r_go (fun kk => e_lvs (lv' := [(0, .ref F), (1, .int (nI i)), (2, .ref (Y.1 0))]) rfl kk) ?_
  refine r_go (fun kk => e_aload_n 0 dX5_redo_0 rfl kk) ?_
  refine r_go (fun kk => e_getP (some AN.1) dX5_redo_1 fl_X5_19 rfl hF hA kk) ?_
  refine r_go (fun kk => e_iload_n 1 dX5_redo_4 rfl kk) ?_
  refine r_go (fun kk => e_ic (nI 1) dX5_redo_5 (by decide) kk) ?_
  refine r_go (fun kk => e_callV (ci := 1) (st := []) (st1 := [.long (nf (4 * i + 1))]) (As := [.int (nI i), .int (nI 1)]) (k_notesGet (G := G) hN hi (j := 1) (by omega)) dX5_redo_6 (by decide) cm_X1_get lk_X5_215 im_X1_get rfl sel_X1_get hN.1.1 rfl rfl (Nat.le_of_ble_eq_true rfl) rfl kk) ?_
  refine r_go (fun kk => e_l2i dX5_redo_9 kk) ?_
  refine r_go (fun kk => e_iv (w := nI j) (by rw [e1, lN_i]) kk) ?_
  refine r_go (fun kk => e_istore_n (lv' := [(3, .int (nI j)), (0, .ref F), (1, .int (nI i)), (2, .ref (Y.1 0))]) dX5_redo_10 (by decide) rfl kk) ?_
  refine r_go (fun kk => e_aload_n 1 dX5_redo_11 rfl kk) ?_
  refine r_go (fun kk => e_getP (some AN.1) dX5_redo_12 fl_X5_19 rfl hF hA kk) ?_
  refine r_go (fun kk => e_iload_n 2 dX5_redo_15 rfl kk) ?_
  refine r_go (fun kk => e_ic (nI 2) dX5_redo_16 (by decide) kk) ?_
  refine r_go (fun kk => e_callV (ci := 1) (st := []) (st1 := [.long (nf (4 * i + 2))]) (As := [.int (nI i), .int (nI 2)]) (k_notesGet (G := G) hN hi (j := 2) (by omega)) dX5_redo_17 (by decide) cm_X1_get lk_X5_215 im_X1_get rfl sel_X1_get hN.1.1 rfl rfl (Nat.le_of_ble_eq_true rfl) rfl kk) ?_
  refine r_go (fun kk => e_l2i dX5_redo_20 kk) ?_
  refine r_go (fun kk => e_istore (lv' := [(4, .int ((nf (4 * i + 2)).toInt32)), (3, .int (nI j)), (0, .ref F), (1, .int (nI i)), (2, .ref (Y.1 0))]) dX5_redo_21 (by decide) rfl kk) ?_
  refine r_go (fun kk => e_aload_n 2 dX5_redo_23 rfl kk) ?_
  refine r_go (fun kk => e_getP (some AN.1) dX5_redo_24 fl_X5_19 rfl hF hA kk) ?_
  refine r_go (fun kk => e_iload_n 3 dX5_redo_27 rfl kk) ?_
  refine r_go (fun kk => e_ic (nI 3) dX5_redo_28 (by decide) kk) ?_
  refine r_go (fun kk => e_callV (ci := 1) (st := []) (st1 := [.long (nf (4 * i + 3))]) (As := [.int (nI i), .int (nI 3)]) (k_notesGet (G := G) hN hi (j := 3) (by omega)) dX5_redo_29 (by decide) cm_X1_get lk_X5_215 im_X1_get rfl sel_X1_get hN.1.1 rfl rfl (Nat.le_of_ble_eq_true rfl) rfl kk) ?_
  refine r_go (fun kk => e_l2i dX5_redo_32 kk) ?_
  refine r_go (fun kk => e_istore (lv' := [(5, .int ((nf (4 * i + 3)).toInt32)), (4, .int ((nf (4 * i + 2)).toInt32)), (3, .int (nI j)), (0, .ref F), (1, .int (nI i)), (2, .ref (Y.1 0))]) dX5_redo_33 (by decide) rfl kk) ?_
  refine r_go (fun kk => e_aload_n 5 dX5_redo_35 rfl kk) ?_
  refine r_go (fun kk => e_iload_n 2 dX5_redo_36 rfl kk) ?_
  refine r_go (fun kk => e_callV (ci := 0) (st := []) (st1 := [.null]) (As := [.int (nI j)]) (k_taskAtN (G := G) hq hx) dX5_redo_37 (by decide) cm_X0_taskAt lk_X5_112 im_X0_taskAt rfl sel_X0_taskAt (hq.T 0 (by decide)) rfl rfl (Nat.le_of_ble_eq_true rfl) rfl kk) ?_
  refine r_go (fun kk => e_astoreN (lv' := [(6, .null), (5, .int ((nf (4 * i + 3)).toInt32)), (4, .int ((nf (4 * i + 2)).toInt32)), (3, .int (nI j)), (0, .ref F), (1, .int (nI i)), (2, .ref (Y.1 0))]) dX5_redo_40 (by decide) rfl kk) ?_
  refine r_go (fun kk => e_aload_n 6 dX5_redo_42 rfl kk) ?_
  refine r_go (fun kk => e_iload_n 3 dX5_redo_43 rfl kk) ?_
  refine r_go (fun kk => e_callV (ci := 0) (st := []) (st1 := [.ref (Y.1 (209 + j))]) (As := [.int (nI j)]) (k_programAt (G := G) hq (j := j) (by omega)) dX5_redo_44 (by decide) cm_X0_programAt lk_X5_39 im_X0_programAt rfl sel_X0_programAt (hq.T 0 (by decide)) rfl rfl (Nat.le_of_ble_eq_true rfl) rfl kk) ?_
  refine r_go (fun kk => e_astore (lv' := [(7, .ref (Y.1 (209 + j))), (6, .null), (5, .int ((nf (4 * i + 3)).toInt32)), (4, .int ((nf (4 * i + 2)).toInt32)), (3, .int (nI j)), (0, .ref F), (1, .int (nI i)), (2, .ref (Y.1 0))]) dX5_redo_47 (by decide) rfl kk) ?_
  refine r_go (fun kk => e_aload_n 5 dX5_redo_49 rfl kk) ?_
  refine r_go (fun kk => e_getP (some AN.1) dX5_redo_50 fl_X5_19 rfl hF hA kk) ?_
  refine r_go (fun kk => e_iload_n 6 dX5_redo_53 rfl kk) ?_
  refine r_go (fun kk => e_ic (nI 0) dX5_redo_54 (by decide) kk) ?_
  refine r_go (fun kk => e_callV (ci := 1) (st := []) (st1 := [.long (nf (4 * i + 0))]) (As := [.int (nI i), .int (nI 0)]) (k_notesGet (G := G) hN hi (j := 0) (by omega)) dX5_redo_55 (by decide) cm_X1_get lk_X5_215 im_X1_get rfl sel_X1_get hN.1.1 rfl rfl (Nat.le_of_ble_eq_true rfl) rfl kk) ?_
  refine r_go (fun kk => e_l2i dX5_redo_58 kk) ?_
  refine r_go (fun kk => e_iv (w := nI 4) (by rw [show nf (4 * i + 0) = _ from e0, lN_i]) kk) ?_
  refine r_go (fun kk => e_tabIn (off := 120) 179 dX5_redo_59 (by decide) (by decide) (by decide) (by decide) kk) ?_
  refine r_go (fun kk => e_aload_n 7 dX5_redo_179 rfl kk) ?_
  refine r_go (fun kk => e_iload_n 4 dX5_redo_180 rfl kk) ?_
  obtain ⟨_, m2, ⟨rfl, hq2⟩, E0x181⟩ := k_changeProcessors (G := G) hq (by omega) (nI j)
  refine r_go (fun kk => e_callV (ci := 0) (st := []) (st1 := [.int (k 2)]) (As := [.int (nI j)]) (E0x181) dX5_redo_181 (by decide) cm_X0_changeProcessors lk_X5_92 im_X0_changeProcessors rfl sel_X0_changeProcessors (hq.T 0 (by decide)) rfl rfl (Nat.le_of_ble_eq_true rfl) rfl kk) ?_
  obtain ⟨Y2, hY2, hq2⟩ : ∃ Y2 : YY, Y2.1 0 = Y.1 0 ∧ KQ Z m2 Y2 102000 (upd k 2 (nI j)) v n := ⟨Y, rfl, hq2⟩
  refine r_go (fun kk => e_pop dX5_redo_184 rfl kk) ?_
  refine r_go (fun kk => e_goto 214 dX5_redo_185 (by decide) kk) ?_
  exact r_ret ⟨rfl, Y2, hY2, hq2⟩ (e_retV dX5_redo_214 rfl rfl)

set_option maxRecDepth 100000 in
set_option maxHeartbeats 4000000 in
theorem redo6NJ (hF : gT m F = 6) (hA : gP m 101 F = some AN.1) (hN : NS m o 10 AN s nf) (hq : KQ Z m Y 102000 k v n) (hi : i < s) {j : Nat} (hj31 : j < 2 ^ 31) (e1 : nf (4 * i + 1) = lN j) (hx : tIn k (nI j) = false) (hp : j < 32) (e0 : nf (4 * i) = lN 6) : EvC G 6 uX5_redo [.ref F, .int (nI i), .ref (Y.1 0)] m (fun r mm => r = none ∧ ∃ Y2, Y2.1 0 = Y.1 0 ∧ KQ Z mm Y2 102000 ((rgF k (nI j)).1) v n) := by
  refine EvC.of (by decide +kernel) (Nat.le_of_ble_eq_true rfl) ?_
  have hn2 := hq.n2
  have hs1 := hN.2.2.2.2.1
  refine r_go (fun kk => e_lvs (lv' := [(0, .ref F), (1, .int (nI i)), (2, .ref (Y.1 0))]) rfl kk) ?_
  refine r_go (fun kk => e_aload_n 0 dX5_redo_0 rfl kk) ?_
  refine r_go (fun kk => e_getP (some AN.1) dX5_redo_1 fl_X5_19 rfl hF hA kk) ?_
  refine r_go (fun kk => e_iload_n 1 dX5_redo_4 rfl kk) ?_
  refine r_go (fun kk => e_ic (nI 1) dX5_redo_5 (by decide) kk) ?_
  refine r_go (fun kk => e_callV (ci := 1) (st := []) (st1 := [.long (nf (4 * i + 1))]) (As := [.int (nI i), .int (nI 1)]) (k_notesGet (G := G) hN hi (j := 1) (by omega)) dX5_redo_6 (by decide) cm_X1_get lk_X5_215 im_X1_get rfl sel_X1_get hN.1.1 rfl rfl (Nat.le_of_ble_eq_true rfl) rfl kk) ?_
  refine r_go (fun kk => e_l2i dX5_redo_9 kk) ?_
  refine r_go (fun kk => e_iv (w := nI j) (by rw [e1, lN_i]) kk) ?_
  refine r_go (fun kk => e_istore_n (lv' := [(3, .int (nI j)), (0, .ref F), (1, .int (nI i)), (2, .ref (Y.1 0))]) dX5_redo_10 (by decide) rfl kk) ?_
  refine r_go (fun kk => e_aload_n 1 dX5_redo_11 rfl kk) ?_
  refine r_go (fun kk => e_getP (some AN.1) dX5_redo_12 fl_X5_19 rfl hF hA kk) ?_
  refine r_go (fun kk => e_iload_n 2 dX5_redo_15 rfl kk) ?_
  refine r_go (fun kk => e_ic (nI 2) dX5_redo_16 (by decide) kk) ?_
  refine r_go (fun kk => e_callV (ci := 1) (st := []) (st1 := [.long (nf (4 * i + 2))]) (As := [.int (nI i), .int (nI 2)]) (k_notesGet (G := G) hN hi (j := 2) (by omega)) dX5_redo_17 (by decide) cm_X1_get lk_X5_215 im_X1_get rfl sel_X1_get hN.1.1 rfl rfl (Nat.le_of_ble_eq_true rfl) rfl kk) ?_
  refine r_go (fun kk => e_l2i dX5_redo_20 kk) ?_
  refine r_go (fun kk => e_istore (lv' := [(4, .int ((nf (4 * i + 2)).toInt32)), (3, .int (nI j)), (0, .ref F), (1, .int (nI i)), (2, .ref (Y.1 0))]) dX5_redo_21 (by decide) rfl kk) ?_
  refine r_go (fun kk => e_aload_n 2 dX5_redo_23 rfl kk) ?_
  refine r_go (fun kk => e_getP (some AN.1) dX5_redo_24 fl_X5_19 rfl hF hA kk) ?_
  refine r_go (fun kk => e_iload_n 3 dX5_redo_27 rfl kk) ?_
  refine r_go (fun kk => e_ic (nI 3) dX5_redo_28 (by decide) kk) ?_
  refine r_go (fun kk => e_callV (ci := 1) (st := []) (st1 := [.long (nf (4 * i + 3))]) (As := [.int (nI i), .int (nI 3)]) (k_notesGet (G := G) hN hi (j := 3) (by omega)) dX5_redo_29 (by decide) cm_X1_get lk_X5_215 im_X1_get rfl sel_X1_get hN.1.1 rfl rfl (Nat.le_of_ble_eq_true rfl) rfl kk) ?_
  refine r_go (fun kk => e_l2i dX5_redo_32 kk) ?_
  refine r_go (fun kk => e_istore (lv' := [(5, .int ((nf (4 * i + 3)).toInt32)), (4, .int ((nf (4 * i + 2)).toInt32)), (3, .int (nI j)), (0, .ref F), (1, .int (nI i)), (2, .ref (Y.1 0))]) dX5_redo_33 (by decide) rfl kk) ?_
  refine r_go (fun kk => e_aload_n 5 dX5_redo_35 rfl kk) ?_
  refine r_go (fun kk => e_iload_n 2 dX5_redo_36 rfl kk) ?_
  refine r_go (fun kk => e_callV (ci := 0) (st := []) (st1 := [.null]) (As := [.int (nI j)]) (k_taskAtN (G := G) hq hx) dX5_redo_37 (by decide) cm_X0_taskAt lk_X5_112 im_X0_taskAt rfl sel_X0_taskAt (hq.T 0 (by decide)) rfl rfl (Nat.le_of_ble_eq_true rfl) rfl kk) ?_
  refine r_go (fun kk => e_astoreN (lv' := [(6, .null), (5, .int ((nf (4 * i + 3)).toInt32)), (4, .int ((nf (4 * i + 2)).toInt32)), (3, .int (nI j)), (0, .ref F), (1, .int (nI i)), (2, .ref (Y.1 0))]) dX5_redo_40 (by decide) rfl kk) ?_
  refine r_go (fun kk => e_aload_n 6 dX5_redo_42 rfl kk) ?_
  refine r_go (fun kk => e_iload_n 3 dX5_redo_43 rfl kk) ?_
  refine r_go (fun kk => e_callV (ci := 0) (st := []) (st1 := [.ref (Y.1 (209 + j))]) (As := [.int (nI j)]) (k_programAt (G := G) hq (j := j) (by omega)) dX5_redo_44 (by decide) cm_X0_programAt lk_X5_39 im_X0_programAt rfl sel_X0_programAt (hq.T 0 (by decide)) rfl rfl (Nat.le_of_ble_eq_true rfl) rfl kk) ?_
  refine r_go (fun kk => e_astore (lv' := [(7, .ref (Y.1 (209 + j))), (6, .null), (5, .int ((nf (4 * i + 3)).toInt32)), (4, .int ((nf (4 * i + 2)).toInt32)), (3, .int (nI j)), (0, .ref F), (1, .int (nI i)), (2, .ref (Y.1 0))]) dX5_redo_47 (by decide) rfl kk) ?_
  refine r_go (fun kk => e_aload_n 5 dX5_redo_49 rfl kk) ?_
  refine r_go (fun kk => e_getP (some AN.1) dX5_redo_50 fl_X5_19 rfl hF hA kk) ?_
  refine r_go (fun kk => e_iload_n 6 dX5_redo_53 rfl kk) ?_
  refine r_go (fun kk => e_ic (nI 0) dX5_redo_54 (by decide) kk) ?_
  refine r_go (fun kk => e_callV (ci := 1) (st := []) (st1 := [.long (nf (4 * i + 0))]) (As := [.int (nI i), .int (nI 0)]) (k_notesGet (G := G) hN hi (j := 0) (by omega)) dX5_redo_55 (by decide) cm_X1_get lk_X5_215 im_X1_get rfl sel_X1_get hN.1.1 rfl rfl (Nat.le_of_ble_eq_true rfl) rfl kk) ?_
  refine r_go (fun kk => e_l2i dX5_redo_58 kk) ?_
  refine r_go (fun kk => e_iv (w := nI 6) (by rw [show nf (4 * i + 0) = _ from e0, lN_i]) kk) ?_
  refine r_go (fun kk => e_tabIn (off := 137) 196 dX5_redo_59 (by decide) (by decide) (by decide) (by decide) kk) ?_
  refine r_go (fun kk => e_aload_n 7 dX5_redo_196 rfl kk) ?_
  refine r_go (fun kk => e_iload_n 4 dX5_redo_197 rfl kk) ?_
  obtain ⟨_, m2, ⟨c0, rfl, rfl, hq2⟩, E0x198⟩ := k_ringBell (G := G) hq (by omega) (nI j)
  refine r_go (fun kk => e_callV (ci := 0) (st := []) (st1 := [.int (nI ((rgF k (nI j)).2))]) (As := [.int (nI j)]) (E0x198) dX5_redo_198 (by decide) cm_X0_ringBell lk_X5_102 im_X0_ringBell rfl sel_X0_ringBell (hq.T 0 (by decide)) rfl rfl (Nat.le_of_ble_eq_true rfl) rfl kk) ?_
  obtain ⟨Y2, hY2, hq2⟩ : ∃ Y2 : YY, Y2.1 0 = Y.1 0 ∧ KQ Z m2 Y2 102000 ((rgF k (nI j)).1) v n := ⟨Y, rfl, hq2⟩
  refine r_go (fun kk => e_pop dX5_redo_201 rfl kk) ?_
  refine r_go (fun kk => e_goto 214 dX5_redo_202 (by decide) kk) ?_
  exact r_ret ⟨rfl, Y2, hY2, hq2⟩ (e_retV dX5_redo_214 rfl rfl)

set_option maxRecDepth 100000 in
set_option maxHeartbeats 4000000 in
theorem redo4NN (hF : gT m F = 6) (hA : gP m 101 F = some AN.1) (hN : NS m o 10 AN s nf) (hq : KQ Z m Y 102000 k v n) (hi : i < s) {a : Int32} (e1 : nf (4 * i + 1) = a.toInt64) (hx : tIn k a = false) (hy : inI a (nI 0) (nI 31) = false) (e0 : nf (4 * i) = lN 4) : EvC G 6 uX5_redo [.ref F, .int (nI i), .ref (Y.1 0)] m (fun r mm => r = none ∧ ∃ Y2, Y2.1 0 = Y.1 0 ∧ KQ Z mm Y2 102000 (upd k 2 a) v n) := by
  refine EvC.of (by decide +kernel) (Nat.le_of_ble_eq_true rfl) ?_
  have hn2 := hq.n2
  have hs1 := hN.2.2.2.2.1
  refine r_go (fun kk => e_lvs (lv' := [(0, .ref F), (1, .int (nI i)), (2, .ref (Y.1 0))]) rfl kk) ?_
  refine r_go (fun kk => e_aload_n 0 dX5_redo_0 rfl kk) ?_
  refine r_go (fun kk => e_getP (some AN.1) dX5_redo_1 fl_X5_19 rfl hF hA kk) ?_
  refine r_go (fun kk => e_iload_n 1 dX5_redo_4 rfl kk) ?_
  refine r_go (fun kk => e_ic (nI 1) dX5_redo_5 (by decide) kk) ?_
  refine r_go (fun kk => e_callV (ci := 1) (st := []) (st1 := [.long (nf (4 * i + 1))]) (As := [.int (nI i), .int (nI 1)]) (k_notesGet (G := G) hN hi (j := 1) (by omega)) dX5_redo_6 (by decide) cm_X1_get lk_X5_215 im_X1_get rfl sel_X1_get hN.1.1 rfl rfl (Nat.le_of_ble_eq_true rfl) rfl kk) ?_
  refine r_go (fun kk => e_l2i dX5_redo_9 kk) ?_
  refine r_go (fun kk => e_iv (w := a) (by rw [e1, Int32.toInt32_toInt64]) kk) ?_
  refine r_go (fun kk => e_istore_n (lv' := [(3, .int a), (0, .ref F), (1, .int (nI i)), (2, .ref (Y.1 0))]) dX5_redo_10 (by decide) rfl kk) ?_
  refine r_go (fun kk => e_aload_n 1 dX5_redo_11 rfl kk) ?_
  refine r_go (fun kk => e_getP (some AN.1) dX5_redo_12 fl_X5_19 rfl hF hA kk) ?_
  refine r_go (fun kk => e_iload_n 2 dX5_redo_15 rfl kk) ?_
  refine r_go (fun kk => e_ic (nI 2) dX5_redo_16 (by decide) kk) ?_
  refine r_go (fun kk => e_callV (ci := 1) (st := []) (st1 := [.long (nf (4 * i + 2))]) (As := [.int (nI i), .int (nI 2)]) (k_notesGet (G := G) hN hi (j := 2) (by omega)) dX5_redo_17 (by decide) cm_X1_get lk_X5_215 im_X1_get rfl sel_X1_get hN.1.1 rfl rfl (Nat.le_of_ble_eq_true rfl) rfl kk) ?_
  refine r_go (fun kk => e_l2i dX5_redo_20 kk) ?_
  refine r_go (fun kk => e_istore (lv' := [(4, .int ((nf (4 * i + 2)).toInt32)), (3, .int a), (0, .ref F), (1, .int (nI i)), (2, .ref (Y.1 0))]) dX5_redo_21 (by decide) rfl kk) ?_
  refine r_go (fun kk => e_aload_n 2 dX5_redo_23 rfl kk) ?_
  refine r_go (fun kk => e_getP (some AN.1) dX5_redo_24 fl_X5_19 rfl hF hA kk) ?_
  refine r_go (fun kk => e_iload_n 3 dX5_redo_27 rfl kk) ?_
  refine r_go (fun kk => e_ic (nI 3) dX5_redo_28 (by decide) kk) ?_
  refine r_go (fun kk => e_callV (ci := 1) (st := []) (st1 := [.long (nf (4 * i + 3))]) (As := [.int (nI i), .int (nI 3)]) (k_notesGet (G := G) hN hi (j := 3) (by omega)) dX5_redo_29 (by decide) cm_X1_get lk_X5_215 im_X1_get rfl sel_X1_get hN.1.1 rfl rfl (Nat.le_of_ble_eq_true rfl) rfl kk) ?_
  refine r_go (fun kk => e_l2i dX5_redo_32 kk) ?_
  refine r_go (fun kk => e_istore (lv' := [(5, .int ((nf (4 * i + 3)).toInt32)), (4, .int ((nf (4 * i + 2)).toInt32)), (3, .int a), (0, .ref F), (1, .int (nI i)), (2, .ref (Y.1 0))]) dX5_redo_33 (by decide) rfl kk) ?_
  refine r_go (fun kk => e_aload_n 5 dX5_redo_35 rfl kk) ?_
  refine r_go (fun kk => e_iload_n 2 dX5_redo_36 rfl kk) ?_
  refine r_go (fun kk => e_callV (ci := 0) (st := []) (st1 := [.null]) (As := [.int a]) (k_taskAtN (G := G) hq hx) dX5_redo_37 (by decide) cm_X0_taskAt lk_X5_112 im_X0_taskAt rfl sel_X0_taskAt (hq.T 0 (by decide)) rfl rfl (Nat.le_of_ble_eq_true rfl) rfl kk) ?_
  refine r_go (fun kk => e_astoreN (lv' := [(6, .null), (5, .int ((nf (4 * i + 3)).toInt32)), (4, .int ((nf (4 * i + 2)).toInt32)), (3, .int a), (0, .ref F), (1, .int (nI i)), (2, .ref (Y.1 0))]) dX5_redo_40 (by decide) rfl kk) ?_
  refine r_go (fun kk => e_aload_n 6 dX5_redo_42 rfl kk) ?_
  refine r_go (fun kk => e_iload_n 3 dX5_redo_43 rfl kk) ?_
  refine r_go (fun kk => e_callV (ci := 0) (st := []) (st1 := [.null]) (As := [.int a]) (k_programAtN (G := G) hq hy) dX5_redo_44 (by decide) cm_X0_programAt lk_X5_39 im_X0_programAt rfl sel_X0_programAt (hq.T 0 (by decide)) rfl rfl (Nat.le_of_ble_eq_true rfl) rfl kk) ?_
  refine r_go (fun kk => e_astoreN (lv' := [(7, .null), (6, .null), (5, .int ((nf (4 * i + 3)).toInt32)), (4, .int ((nf (4 * i + 2)).toInt32)), (3, .int a), (0, .ref F), (1, .int (nI i)), (2, .ref (Y.1 0))]) dX5_redo_47 (by decide) rfl kk) ?_
  refine r_go (fun kk => e_aload_n 5 dX5_redo_49 rfl kk) ?_
  refine r_go (fun kk => e_getP (some AN.1) dX5_redo_50 fl_X5_19 rfl hF hA kk) ?_
  refine r_go (fun kk => e_iload_n 6 dX5_redo_53 rfl kk) ?_
  refine r_go (fun kk => e_ic (nI 0) dX5_redo_54 (by decide) kk) ?_
  refine r_go (fun kk => e_callV (ci := 1) (st := []) (st1 := [.long (nf (4 * i + 0))]) (As := [.int (nI i), .int (nI 0)]) (k_notesGet (G := G) hN hi (j := 0) (by omega)) dX5_redo_55 (by decide) cm_X1_get lk_X5_215 im_X1_get rfl sel_X1_get hN.1.1 rfl rfl (Nat.le_of_ble_eq_true rfl) rfl kk) ?_
  refine r_go (fun kk => e_l2i dX5_redo_58 kk) ?_
  refine r_go (fun kk => e_iv (w := nI 4) (by rw [show nf (4 * i + 0) = _ from e0, lN_i]) kk) ?_
  refine r_go (fun kk => e_tabIn (off := 120) 179 dX5_redo_59 (by decide) (by decide) (by decide) (by decide) kk) ?_
  refine r_go (fun kk => e_aload_n 7 dX5_redo_179 rfl kk) ?_
  refine r_go (fun kk => e_iload_n 4 dX5_redo_180 rfl kk) ?_
  obtain ⟨_, m2, ⟨rfl, hq2⟩, E0x181⟩ := k_changeProcessors (G := G) hq (by omega) a
  refine r_go (fun kk => e_callV (ci := 0) (st := []) (st1 := [.int (k 2)]) (As := [.int a]) (E0x181) dX5_redo_181 (by decide) cm_X0_changeProcessors lk_X5_92 im_X0_changeProcessors rfl sel_X0_changeProcessors (hq.T 0 (by decide)) rfl rfl (Nat.le_of_ble_eq_true rfl) rfl kk) ?_
  obtain ⟨Y2, hY2, hq2⟩ : ∃ Y2 : YY, Y2.1 0 = Y.1 0 ∧ KQ Z m2 Y2 102000 (upd k 2 a) v n := ⟨Y, rfl, hq2⟩
  refine r_go (fun kk => e_pop dX5_redo_184 rfl kk) ?_
  refine r_go (fun kk => e_goto 214 dX5_redo_185 (by decide) kk) ?_
  exact r_ret ⟨rfl, Y2, hY2, hq2⟩ (e_retV dX5_redo_214 rfl rfl)

set_option maxRecDepth 100000 in
set_option maxHeartbeats 4000000 in
theorem redo6NN (hF : gT m F = 6) (hA : gP m 101 F = some AN.1) (hN : NS m o 10 AN s nf) (hq : KQ Z m Y 102000 k v n) (hi : i < s) {a : Int32} (e1 : nf (4 * i + 1) = a.toInt64) (hx : tIn k a = false) (hy : inI a (nI 0) (nI 31) = false) (e0 : nf (4 * i) = lN 6) : EvC G 6 uX5_redo [.ref F, .int (nI i), .ref (Y.1 0)] m (fun r mm => r = none ∧ ∃ Y2, Y2.1 0 = Y.1 0 ∧ KQ Z mm Y2 102000 ((rgF k a).1) v n) := by
  refine EvC.of (by decide +kernel) (Nat.le_of_ble_eq_true rfl) ?_
  have hn2 := hq.n2
  have hs1 := hN.2.2.2.2.1
  refine r_go (fun kk => e_lvs (lv' := [(0, .ref F), (1, .int (nI i)), (2, .ref (Y.1 0))]) rfl kk) ?_
  refine r_go (fun kk => e_aload_n 0 dX5_redo_0 rfl kk) ?_
  refine r_go (fun kk => e_getP (some AN.1) dX5_redo_1 fl_X5_19 rfl hF hA kk) ?_
  refine r_go (fun kk => e_iload_n 1 dX5_redo_4 rfl kk) ?_
  refine r_go (fun kk => e_ic (nI 1) dX5_redo_5 (by decide) kk) ?_
  refine r_go (fun kk => e_callV (ci := 1) (st := []) (st1 := [.long (nf (4 * i + 1))]) (As := [.int (nI i), .int (nI 1)]) (k_notesGet (G := G) hN hi (j := 1) (by omega)) dX5_redo_6 (by decide) cm_X1_get lk_X5_215 im_X1_get rfl sel_X1_get hN.1.1 rfl rfl (Nat.le_of_ble_eq_true rfl) rfl kk) ?_
  refine r_go (fun kk => e_l2i dX5_redo_9 kk) ?_
  refine r_go (fun kk => e_iv (w := a) (by rw [e1, Int32.toInt32_toInt64]) kk) ?_
  refine r_go (fun kk => e_istore_n (lv' := [(3, .int a), (0, .ref F), (1, .int (nI i)), (2, .ref (Y.1 0))]) dX5_redo_10 (by decide) rfl kk) ?_
  refine r_go (fun kk => e_aload_n 1 dX5_redo_11 rfl kk) ?_
  refine r_go (fun kk => e_getP (some AN.1) dX5_redo_12 fl_X5_19 rfl hF hA kk) ?_
  refine r_go (fun kk => e_iload_n 2 dX5_redo_15 rfl kk) ?_
  refine r_go (fun kk => e_ic (nI 2) dX5_redo_16 (by decide) kk) ?_
  refine r_go (fun kk => e_callV (ci := 1) (st := []) (st1 := [.long (nf (4 * i + 2))]) (As := [.int (nI i), .int (nI 2)]) (k_notesGet (G := G) hN hi (j := 2) (by omega)) dX5_redo_17 (by decide) cm_X1_get lk_X5_215 im_X1_get rfl sel_X1_get hN.1.1 rfl rfl (Nat.le_of_ble_eq_true rfl) rfl kk) ?_
  refine r_go (fun kk => e_l2i dX5_redo_20 kk) ?_
  refine r_go (fun kk => e_istore (lv' := [(4, .int ((nf (4 * i + 2)).toInt32)), (3, .int a), (0, .ref F), (1, .int (nI i)), (2, .ref (Y.1 0))]) dX5_redo_21 (by decide) rfl kk) ?_
  refine r_go (fun kk => e_aload_n 2 dX5_redo_23 rfl kk) ?_
  refine r_go (fun kk => e_getP (some AN.1) dX5_redo_24 fl_X5_19 rfl hF hA kk) ?_
  refine r_go (fun kk => e_iload_n 3 dX5_redo_27 rfl kk) ?_
  refine r_go (fun kk => e_ic (nI 3) dX5_redo_28 (by decide) kk) ?_
  refine r_go (fun kk => e_callV (ci := 1) (st := []) (st1 := [.long (nf (4 * i + 3))]) (As := [.int (nI i), .int (nI 3)]) (k_notesGet (G := G) hN hi (j := 3) (by omega)) dX5_redo_29 (by decide) cm_X1_get lk_X5_215 im_X1_get rfl sel_X1_get hN.1.1 rfl rfl (Nat.le_of_ble_eq_true rfl) rfl kk) ?_
  refine r_go (fun kk => e_l2i dX5_redo_32 kk) ?_
  refine r_go (fun kk => e_istore (lv' := [(5, .int ((nf (4 * i + 3)).toInt32)), (4, .int ((nf (4 * i + 2)).toInt32)), (3, .int a), (0, .ref F), (1, .int (nI i)), (2, .ref (Y.1 0))]) dX5_redo_33 (by decide) rfl kk) ?_
  refine r_go (fun kk => e_aload_n 5 dX5_redo_35 rfl kk) ?_
  refine r_go (fun kk => e_iload_n 2 dX5_redo_36 rfl kk) ?_
  refine r_go (fun kk => e_callV (ci := 0) (st := []) (st1 := [.null]) (As := [.int a]) (k_taskAtN (G := G) hq hx) dX5_redo_37 (by decide) cm_X0_taskAt lk_X5_112 im_X0_taskAt rfl sel_X0_taskAt (hq.T 0 (by decide)) rfl rfl (Nat.le_of_ble_eq_true rfl) rfl kk) ?_
  refine r_go (fun kk => e_astoreN (lv' := [(6, .null), (5, .int ((nf (4 * i + 3)).toInt32)), (4, .int ((nf (4 * i + 2)).toInt32)), (3, .int a), (0, .ref F), (1, .int (nI i)), (2, .ref (Y.1 0))]) dX5_redo_40 (by decide) rfl kk) ?_
  refine r_go (fun kk => e_aload_n 6 dX5_redo_42 rfl kk) ?_
  refine r_go (fun kk => e_iload_n 3 dX5_redo_43 rfl kk) ?_
  refine r_go (fun kk => e_callV (ci := 0) (st := []) (st1 := [.null]) (As := [.int a]) (k_programAtN (G := G) hq hy) dX5_redo_44 (by decide) cm_X0_programAt lk_X5_39 im_X0_programAt rfl sel_X0_programAt (hq.T 0 (by decide)) rfl rfl (Nat.le_of_ble_eq_true rfl) rfl kk) ?_
  refine r_go (fun kk => e_astoreN (lv' := [(7, .null), (6, .null), (5, .int ((nf (4 * i + 3)).toInt32)), (4, .int ((nf (4 * i + 2)).toInt32)), (3, .int a), (0, .ref F), (1, .int (nI i)), (2, .ref (Y.1 0))]) dX5_redo_47 (by decide) rfl kk) ?_
  refine r_go (fun kk => e_aload_n 5 dX5_redo_49 rfl kk) ?_
  refine r_go (fun kk => e_getP (some AN.1) dX5_redo_50 fl_X5_19 rfl hF hA kk) ?_
  refine r_go (fun kk => e_iload_n 6 dX5_redo_53 rfl kk) ?_
  refine r_go (fun kk => e_ic (nI 0) dX5_redo_54 (by decide) kk) ?_
  refine r_go (fun kk => e_callV (ci := 1) (st := []) (st1 := [.long (nf (4 * i + 0))]) (As := [.int (nI i), .int (nI 0)]) (k_notesGet (G := G) hN hi (j := 0) (by omega)) dX5_redo_55 (by decide) cm_X1_get lk_X5_215 im_X1_get rfl sel_X1_get hN.1.1 rfl rfl (Nat.le_of_ble_eq_true rfl) rfl kk) ?_
  refine r_go (fun kk => e_l2i dX5_redo_58 kk) ?_
  refine r_go (fun kk => e_iv (w := nI 6) (by rw [show nf (4 * i + 0) = _ from e0, lN_i]) kk) ?_
  refine r_go (fun kk => e_tabIn (off := 137) 196 dX5_redo_59 (by decide) (by decide) (by decide) (by decide) kk) ?_
  refine r_go (fun kk => e_aload_n 7 dX5_redo_196 rfl kk) ?_
  refine r_go (fun kk => e_iload_n 4 dX5_redo_197 rfl kk) ?_
  obtain ⟨_, m2, ⟨c0, rfl, rfl, hq2⟩, E0x198⟩ := k_ringBell (G := G) hq (by omega) a
  refine r_go (fun kk => e_callV (ci := 0) (st := []) (st1 := [.int (nI ((rgF k a).2))]) (As := [.int a]) (E0x198) dX5_redo_198 (by decide) cm_X0_ringBell lk_X5_102 im_X0_ringBell rfl sel_X0_ringBell (hq.T 0 (by decide)) rfl rfl (Nat.le_of_ble_eq_true rfl) rfl kk) ?_
  obtain ⟨Y2, hY2, hq2⟩ : ∃ Y2 : YY, Y2.1 0 = Y.1 0 ∧ KQ Z m2 Y2 102000 ((rgF k a).1) v n := ⟨Y, rfl, hq2⟩
  refine r_go (fun kk => e_pop dX5_redo_201 rfl kk) ?_
  refine r_go (fun kk => e_goto 214 dX5_redo_202 (by decide) kk) ?_
  exact r_ret ⟨rfl, Y2, hY2, hq2⟩ (e_retV dX5_redo_214 rfl rfl)

set_option maxRecDepth 100000 in
set_option maxHeartbeats 4000000 in
theorem redo5JJ (hF : gT m F = 6) (hA : gP m 101 F = some AN.1) (hN : NS m o 10 AN s nf) (hq : KQ Z m Y 102000 k v n) (hi : i < s) {j : Nat} (hj31 : j < 2 ^ 31) (e1 : nf (4 * i + 1) = lN j) (hl : j < 100) (hj : j < n) (hp : j < 32) (e0 : nf (4 * i) = lN 5) : EvC G 6 uX5_redo [.ref F, .int (nI i), .ref (Y.1 0)] m (fun r mm => r = none ∧ ∃ Y2, Y2.1 0 = Y.1 0 ∧ KQ Z mm Y2 102000 (upd k (240 + j) (-1)) v n) := by
  refine EvC.of (by decide +kernel) (Nat.le_of_ble_eq_true rfl) ?_
  have hn2 := hq.n2
  have hs1 := hN.2.2.2.2.1
  refine r_go (fun kk => e_lvs (lv' := [(0, .ref F), (1, .int (nI i)), (2, .ref (Y.1 0))]) rfl kk) ?_
  refine r_go (fun kk => e_aload_n 0 dX5_redo_0 rfl kk) ?_
  refine r_go (fun kk => e_getP (some AN.1) dX5_redo_1 fl_X5_19 rfl hF hA kk) ?_
  refine r_go (fun kk => e_iload_n 1 dX5_redo_4 rfl kk) ?_
  refine r_go (fun kk => e_ic (nI 1) dX5_redo_5 (by decide) kk) ?_
  refine r_go (fun kk => e_callV (ci := 1) (st := []) (st1 := [.long (nf (4 * i + 1))]) (As := [.int (nI i), .int (nI 1)]) (k_notesGet (G := G) hN hi (j := 1) (by omega)) dX5_redo_6 (by decide) cm_X1_get lk_X5_215 im_X1_get rfl sel_X1_get hN.1.1 rfl rfl (Nat.le_of_ble_eq_true rfl) rfl kk) ?_
  refine r_go (fun kk => e_l2i dX5_redo_9 kk) ?_
  refine r_go (fun kk => e_iv (w := nI j) (by rw [e1, lN_i]) kk) ?_
  refine r_go (fun kk => e_istore_n (lv' := [(3, .int (nI j)), (0, .ref F), (1, .int (nI i)), (2, .ref (Y.1 0))]) dX5_redo_10 (by decide) rfl kk) ?_
  refine r_go (fun kk => e_aload_n 1 dX5_redo_11 rfl kk) ?_
  refine r_go (fun kk => e_getP (some AN.1) dX5_redo_12 fl_X5_19 rfl hF hA kk) ?_
  refine r_go (fun kk => e_iload_n 2 dX5_redo_15 rfl kk) ?_
  refine r_go (fun kk => e_ic (nI 2) dX5_redo_16 (by decide) kk) ?_
  refine r_go (fun kk => e_callV (ci := 1) (st := []) (st1 := [.long (nf (4 * i + 2))]) (As := [.int (nI i), .int (nI 2)]) (k_notesGet (G := G) hN hi (j := 2) (by omega)) dX5_redo_17 (by decide) cm_X1_get lk_X5_215 im_X1_get rfl sel_X1_get hN.1.1 rfl rfl (Nat.le_of_ble_eq_true rfl) rfl kk) ?_
  refine r_go (fun kk => e_l2i dX5_redo_20 kk) ?_
  refine r_go (fun kk => e_istore (lv' := [(4, .int ((nf (4 * i + 2)).toInt32)), (3, .int (nI j)), (0, .ref F), (1, .int (nI i)), (2, .ref (Y.1 0))]) dX5_redo_21 (by decide) rfl kk) ?_
  refine r_go (fun kk => e_aload_n 2 dX5_redo_23 rfl kk) ?_
  refine r_go (fun kk => e_getP (some AN.1) dX5_redo_24 fl_X5_19 rfl hF hA kk) ?_
  refine r_go (fun kk => e_iload_n 3 dX5_redo_27 rfl kk) ?_
  refine r_go (fun kk => e_ic (nI 3) dX5_redo_28 (by decide) kk) ?_
  refine r_go (fun kk => e_callV (ci := 1) (st := []) (st1 := [.long (nf (4 * i + 3))]) (As := [.int (nI i), .int (nI 3)]) (k_notesGet (G := G) hN hi (j := 3) (by omega)) dX5_redo_29 (by decide) cm_X1_get lk_X5_215 im_X1_get rfl sel_X1_get hN.1.1 rfl rfl (Nat.le_of_ble_eq_true rfl) rfl kk) ?_
  refine r_go (fun kk => e_l2i dX5_redo_32 kk) ?_
  refine r_go (fun kk => e_istore (lv' := [(5, .int ((nf (4 * i + 3)).toInt32)), (4, .int ((nf (4 * i + 2)).toInt32)), (3, .int (nI j)), (0, .ref F), (1, .int (nI i)), (2, .ref (Y.1 0))]) dX5_redo_33 (by decide) rfl kk) ?_
  refine r_go (fun kk => e_aload_n 5 dX5_redo_35 rfl kk) ?_
  refine r_go (fun kk => e_iload_n 2 dX5_redo_36 rfl kk) ?_
  refine r_go (fun kk => e_callV (ci := 0) (st := []) (st1 := [.ref (Y.1 (9 + j))]) (As := [.int (nI j)]) (k_taskAt (G := G) hq hj) dX5_redo_37 (by decide) cm_X0_taskAt lk_X5_112 im_X0_taskAt rfl sel_X0_taskAt (hq.T 0 (by decide)) rfl rfl (Nat.le_of_ble_eq_true rfl) rfl kk) ?_
  refine r_go (fun kk => e_astore (lv' := [(6, .ref (Y.1 (9 + j))), (5, .int ((nf (4 * i + 3)).toInt32)), (4, .int ((nf (4 * i + 2)).toInt32)), (3, .int (nI j)), (0, .ref F), (1, .int (nI i)), (2, .ref (Y.1 0))]) dX5_redo_40 (by decide) rfl kk) ?_
  refine r_go (fun kk => e_aload_n 6 dX5_redo_42 rfl kk) ?_
  refine r_go (fun kk => e_iload_n 3 dX5_redo_43 rfl kk) ?_
  refine r_go (fun kk => e_callV (ci := 0) (st := []) (st1 := [.ref (Y.1 (209 + j))]) (As := [.int (nI j)]) (k_programAt (G := G) hq (j := j) (by omega)) dX5_redo_44 (by decide) cm_X0_programAt lk_X5_39 im_X0_programAt rfl sel_X0_programAt (hq.T 0 (by decide)) rfl rfl (Nat.le_of_ble_eq_true rfl) rfl kk) ?_
  refine r_go (fun kk => e_astore (lv' := [(7, .ref (Y.1 (209 + j))), (6, .ref (Y.1 (9 + j))), (5, .int ((nf (4 * i + 3)).toInt32)), (4, .int ((nf (4 * i + 2)).toInt32)), (3, .int (nI j)), (0, .ref F), (1, .int (nI i)), (2, .ref (Y.1 0))]) dX5_redo_47 (by decide) rfl kk) ?_
  refine r_go (fun kk => e_aload_n 5 dX5_redo_49 rfl kk) ?_
  refine r_go (fun kk => e_getP (some AN.1) dX5_redo_50 fl_X5_19 rfl hF hA kk) ?_
  refine r_go (fun kk => e_iload_n 6 dX5_redo_53 rfl kk) ?_
  refine r_go (fun kk => e_ic (nI 0) dX5_redo_54 (by decide) kk) ?_
  refine r_go (fun kk => e_callV (ci := 1) (st := []) (st1 := [.long (nf (4 * i + 0))]) (As := [.int (nI i), .int (nI 0)]) (k_notesGet (G := G) hN hi (j := 0) (by omega)) dX5_redo_55 (by decide) cm_X1_get lk_X5_215 im_X1_get rfl sel_X1_get hN.1.1 rfl rfl (Nat.le_of_ble_eq_true rfl) rfl kk) ?_
  refine r_go (fun kk => e_l2i dX5_redo_58 kk) ?_
  refine r_go (fun kk => e_iv (w := nI 5) (by rw [show nf (4 * i + 0) = _ from e0, lN_i]) kk) ?_
  refine r_go (fun kk => e_tabIn (off := 129) 188 dX5_redo_59 (by decide) (by decide) (by decide) (by decide) kk) ?_
  refine r_go (fun kk => e_aload_n 7 dX5_redo_188 rfl kk) ?_
  refine r_go (fun kk => e_iload_n 4 dX5_redo_189 rfl kk) ?_
  obtain ⟨_, m2, ⟨rfl, hq2⟩, E0x190⟩ := k_addLock (G := G) hq (by omega) (l := j) hl
  refine r_go (fun kk => e_callV (ci := 0) (st := []) (st1 := []) (As := [.int (nI j)]) (E0x190) dX5_redo_190 (by decide) cm_X0_addLock lk_X5_98 im_X0_addLock rfl sel_X0_addLock (hq.T 0 (by decide)) rfl rfl (Nat.le_of_ble_eq_true rfl) rfl kk) ?_
  obtain ⟨Y2, hY2, hq2⟩ : ∃ Y2 : YY, Y2.1 0 = Y.1 0 ∧ KQ Z m2 Y2 102000 (upd k (240 + j) (-1)) v n := ⟨Y, rfl, hq2⟩
  refine r_go (fun kk => e_goto 214 dX5_redo_193 (by decide) kk) ?_
  exact r_ret ⟨rfl, Y2, hY2, hq2⟩ (e_retV dX5_redo_214 rfl rfl)

set_option maxRecDepth 100000 in
set_option maxHeartbeats 4000000 in
theorem redo7JJ (hF : gT m F = 6) (hA : gP m 101 F = some AN.1) (hN : NS m o 10 AN s nf) (hq : KQ Z m Y 102000 k v n) (hi : i < s) {j : Nat} (hj31 : j < 2 ^ 31) (e1 : nf (4 * i + 1) = lN j) {n2 : Nat} (hW : WF k n) {z : Nat} (hN1 : j ≤ 1000) (hz : z + j ≤ 1001000) (hG : WG k v z (8000 * z)) (h0 : k 0 = nI z) (lf : Nat → Int32) (e4 : (rnL j (k, v, lf) 0).1.1 1 = nI n2) (e5 : n2 ≤ 200) (hj : j < n) (hp : j < 32) (e0 : nf (4 * i) = lN 7) : EvC G 6 uX5_redo [.ref F, .int (nI i), .ref (Y.1 0)] m (fun r mm => r = none ∧ ∃ Y2, Y2.1 0 = Y.1 0 ∧ KQ Z mm Y2 102000 ((rnL j (k, v, lf) 0).1.1) ((rnL j (k, v, lf) 0).1.2.1) n2) := by
  refine EvC.of (by decide +kernel) (Nat.le_of_ble_eq_true rfl) ?_
  have hn2 := hq.n2
  have hs1 := hN.2.2.2.2.1
  refine r_go (fun kk => e_lvs (lv' := [(0, .ref F), (1, .int (nI i)), (2, .ref (Y.1 0))]) rfl kk) ?_
  refine r_go (fun kk => e_aload_n 0 dX5_redo_0 rfl kk) ?_
  refine r_go (fun kk => e_getP (some AN.1) dX5_redo_1 fl_X5_19 rfl hF hA kk) ?_
  refine r_go (fun kk => e_iload_n 1 dX5_redo_4 rfl kk) ?_
  refine r_go (fun kk => e_ic (nI 1) dX5_redo_5 (by decide) kk) ?_
  refine r_go (fun kk => e_callV (ci := 1) (st := []) (st1 := [.long (nf (4 * i + 1))]) (As := [.int (nI i), .int (nI 1)]) (k_notesGet (G := G) hN hi (j := 1) (by omega)) dX5_redo_6 (by decide) cm_X1_get lk_X5_215 im_X1_get rfl sel_X1_get hN.1.1 rfl rfl (Nat.le_of_ble_eq_true rfl) rfl kk) ?_
  refine r_go (fun kk => e_l2i dX5_redo_9 kk) ?_
  refine r_go (fun kk => e_iv (w := nI j) (by rw [e1, lN_i]) kk) ?_
  refine r_go (fun kk => e_istore_n (lv' := [(3, .int (nI j)), (0, .ref F), (1, .int (nI i)), (2, .ref (Y.1 0))]) dX5_redo_10 (by decide) rfl kk) ?_
  refine r_go (fun kk => e_aload_n 1 dX5_redo_11 rfl kk) ?_
  refine r_go (fun kk => e_getP (some AN.1) dX5_redo_12 fl_X5_19 rfl hF hA kk) ?_
  refine r_go (fun kk => e_iload_n 2 dX5_redo_15 rfl kk) ?_
  refine r_go (fun kk => e_ic (nI 2) dX5_redo_16 (by decide) kk) ?_
  refine r_go (fun kk => e_callV (ci := 1) (st := []) (st1 := [.long (nf (4 * i + 2))]) (As := [.int (nI i), .int (nI 2)]) (k_notesGet (G := G) hN hi (j := 2) (by omega)) dX5_redo_17 (by decide) cm_X1_get lk_X5_215 im_X1_get rfl sel_X1_get hN.1.1 rfl rfl (Nat.le_of_ble_eq_true rfl) rfl kk) ?_
  refine r_go (fun kk => e_l2i dX5_redo_20 kk) ?_
  refine r_go (fun kk => e_istore (lv' := [(4, .int ((nf (4 * i + 2)).toInt32)), (3, .int (nI j)), (0, .ref F), (1, .int (nI i)), (2, .ref (Y.1 0))]) dX5_redo_21 (by decide) rfl kk) ?_
  refine r_go (fun kk => e_aload_n 2 dX5_redo_23 rfl kk) ?_
  refine r_go (fun kk => e_getP (some AN.1) dX5_redo_24 fl_X5_19 rfl hF hA kk) ?_
  refine r_go (fun kk => e_iload_n 3 dX5_redo_27 rfl kk) ?_
  refine r_go (fun kk => e_ic (nI 3) dX5_redo_28 (by decide) kk) ?_
  refine r_go (fun kk => e_callV (ci := 1) (st := []) (st1 := [.long (nf (4 * i + 3))]) (As := [.int (nI i), .int (nI 3)]) (k_notesGet (G := G) hN hi (j := 3) (by omega)) dX5_redo_29 (by decide) cm_X1_get lk_X5_215 im_X1_get rfl sel_X1_get hN.1.1 rfl rfl (Nat.le_of_ble_eq_true rfl) rfl kk) ?_
  refine r_go (fun kk => e_l2i dX5_redo_32 kk) ?_
  refine r_go (fun kk => e_istore (lv' := [(5, .int ((nf (4 * i + 3)).toInt32)), (4, .int ((nf (4 * i + 2)).toInt32)), (3, .int (nI j)), (0, .ref F), (1, .int (nI i)), (2, .ref (Y.1 0))]) dX5_redo_33 (by decide) rfl kk) ?_
  refine r_go (fun kk => e_aload_n 5 dX5_redo_35 rfl kk) ?_
  refine r_go (fun kk => e_iload_n 2 dX5_redo_36 rfl kk) ?_
  refine r_go (fun kk => e_callV (ci := 0) (st := []) (st1 := [.ref (Y.1 (9 + j))]) (As := [.int (nI j)]) (k_taskAt (G := G) hq hj) dX5_redo_37 (by decide) cm_X0_taskAt lk_X5_112 im_X0_taskAt rfl sel_X0_taskAt (hq.T 0 (by decide)) rfl rfl (Nat.le_of_ble_eq_true rfl) rfl kk) ?_
  refine r_go (fun kk => e_astore (lv' := [(6, .ref (Y.1 (9 + j))), (5, .int ((nf (4 * i + 3)).toInt32)), (4, .int ((nf (4 * i + 2)).toInt32)), (3, .int (nI j)), (0, .ref F), (1, .int (nI i)), (2, .ref (Y.1 0))]) dX5_redo_40 (by decide) rfl kk) ?_
  refine r_go (fun kk => e_aload_n 6 dX5_redo_42 rfl kk) ?_
  refine r_go (fun kk => e_iload_n 3 dX5_redo_43 rfl kk) ?_
  refine r_go (fun kk => e_callV (ci := 0) (st := []) (st1 := [.ref (Y.1 (209 + j))]) (As := [.int (nI j)]) (k_programAt (G := G) hq (j := j) (by omega)) dX5_redo_44 (by decide) cm_X0_programAt lk_X5_39 im_X0_programAt rfl sel_X0_programAt (hq.T 0 (by decide)) rfl rfl (Nat.le_of_ble_eq_true rfl) rfl kk) ?_
  refine r_go (fun kk => e_astore (lv' := [(7, .ref (Y.1 (209 + j))), (6, .ref (Y.1 (9 + j))), (5, .int ((nf (4 * i + 3)).toInt32)), (4, .int ((nf (4 * i + 2)).toInt32)), (3, .int (nI j)), (0, .ref F), (1, .int (nI i)), (2, .ref (Y.1 0))]) dX5_redo_47 (by decide) rfl kk) ?_
  refine r_go (fun kk => e_aload_n 5 dX5_redo_49 rfl kk) ?_
  refine r_go (fun kk => e_getP (some AN.1) dX5_redo_50 fl_X5_19 rfl hF hA kk) ?_
  refine r_go (fun kk => e_iload_n 6 dX5_redo_53 rfl kk) ?_
  refine r_go (fun kk => e_ic (nI 0) dX5_redo_54 (by decide) kk) ?_
  refine r_go (fun kk => e_callV (ci := 1) (st := []) (st1 := [.long (nf (4 * i + 0))]) (As := [.int (nI i), .int (nI 0)]) (k_notesGet (G := G) hN hi (j := 0) (by omega)) dX5_redo_55 (by decide) cm_X1_get lk_X5_215 im_X1_get rfl sel_X1_get hN.1.1 rfl rfl (Nat.le_of_ble_eq_true rfl) rfl kk) ?_
  refine r_go (fun kk => e_l2i dX5_redo_58 kk) ?_
  refine r_go (fun kk => e_iv (w := nI 7) (by rw [show nf (4 * i + 0) = _ from e0, lN_i]) kk) ?_
  refine r_go (fun kk => e_tabIn (off := 146) 205 dX5_redo_59 (by decide) (by decide) (by decide) (by decide) kk) ?_
  refine r_go (fun kk => e_aload_n 7 dX5_redo_205 rfl kk) ?_
  refine r_go (fun kk => e_iload_n 4 dX5_redo_206 rfl kk) ?_
  obtain ⟨_, m2, ⟨rfl, Y3, n3, hn3, hSm, hq2⟩, E0x207⟩ := k_goOn (G := G) hq (by omega) (Or.inr rfl) hW hN1 hz hG h0 lf
  refine r_go (fun kk => e_callV (ci := 0) (st := []) (st1 := [.int (nI ((rnL j (k, v, lf) 0).2))]) (As := [.int (nI j)]) (E0x207) dX5_redo_207 (by decide) cm_X0_goOn lk_X5_105 im_X0_goOn rfl sel_X0_goOn (hq.T 0 (by decide)) rfl rfl (Nat.le_of_ble_eq_true rfl) rfl kk) ?_
  have en : n3 = n2 := (nI_eq (by have := hq2.n2; omega) (by omega)).mp (hq2.n1.symm.trans e4)
  rw [en] at hq2
  obtain ⟨Y2, hY2, hq2⟩ : ∃ Y2 : YY, Y2.1 0 = Y.1 0 ∧ KQ Z m2 Y2 102000 ((rnL j (k, v, lf) 0).1.1) ((rnL j (k, v, lf) 0).1.2.1) n2 := ⟨Y3, hSm 0 (by omega), hq2⟩
  refine r_go (fun kk => e_pop dX5_redo_210 rfl kk) ?_
  refine r_go (fun kk => e_goto 214 dX5_redo_211 (by decide) kk) ?_
  exact r_ret ⟨rfl, Y2, hY2, hq2⟩ (e_retV dX5_redo_214 rfl rfl)

set_option maxRecDepth 100000 in
set_option maxHeartbeats 4000000 in
theorem redo5JN (hF : gT m F = 6) (hA : gP m 101 F = some AN.1) (hN : NS m o 10 AN s nf) (hq : KQ Z m Y 102000 k v n) (hi : i < s) {j : Nat} (hj31 : j < 2 ^ 31) (e1 : nf (4 * i + 1) = lN j) (hl : j < 100) (hj : j < n) (hy : inI (nI j) (nI 0) (nI 31) = false) (e0 : nf (4 * i) = lN 5) : EvC G 6 uX5_redo [.ref F, .int (nI i), .ref (Y.1 0)] m (fun r mm => r = none ∧ ∃ Y2, Y2.1 0 = Y.1 0 ∧ KQ Z mm Y2 102000 (upd k (240 + j) (-1)) v n) := by
  refine EvC.of (by decide +kernel) (Nat.le_of_ble_eq_true rfl) ?_
  have hn2 := hq.n2
  have hs1 := hN.2.2.2.2.1
  refine r_go (fun kk => e_lvs (lv' := [(0, .ref F), (1, .int (nI i)), (2, .ref (Y.1 0))]) rfl kk) ?_
  refine r_go (fun kk => e_aload_n 0 dX5_redo_0 rfl kk) ?_
  refine r_go (fun kk => e_getP (some AN.1) dX5_redo_1 fl_X5_19 rfl hF hA kk) ?_
  refine r_go (fun kk => e_iload_n 1 dX5_redo_4 rfl kk) ?_
  refine r_go (fun kk => e_ic (nI 1) dX5_redo_5 (by decide) kk) ?_
  refine r_go (fun kk => e_callV (ci := 1) (st := []) (st1 := [.long (nf (4 * i + 1))]) (As := [.int (nI i), .int (nI 1)]) (k_notesGet (G := G) hN hi (j := 1) (by omega)) dX5_redo_6 (by decide) cm_X1_get lk_X5_215 im_X1_get rfl sel_X1_get hN.1.1 rfl rfl (Nat.le_of_ble_eq_true rfl) rfl kk) ?_
  refine r_go (fun kk => e_l2i dX5_redo_9 kk) ?_
  refine r_go (fun kk => e_iv (w := nI j) (by rw [e1, lN_i]) kk) ?_
  refine r_go (fun kk => e_istore_n (lv' := [(3, .int (nI j)), (0, .ref F), (1, .int (nI i)), (2, .ref (Y.1 0))]) dX5_redo_10 (by decide) rfl kk) ?_
  refine r_go (fun kk => e_aload_n 1 dX5_redo_11 rfl kk) ?_
  refine r_go (fun kk => e_getP (some AN.1) dX5_redo_12 fl_X5_19 rfl hF hA kk) ?_
  refine r_go (fun kk => e_iload_n 2 dX5_redo_15 rfl kk) ?_
  refine r_go (fun kk => e_ic (nI 2) dX5_redo_16 (by decide) kk) ?_
  refine r_go (fun kk => e_callV (ci := 1) (st := []) (st1 := [.long (nf (4 * i + 2))]) (As := [.int (nI i), .int (nI 2)]) (k_notesGet (G := G) hN hi (j := 2) (by omega)) dX5_redo_17 (by decide) cm_X1_get lk_X5_215 im_X1_get rfl sel_X1_get hN.1.1 rfl rfl (Nat.le_of_ble_eq_true rfl) rfl kk) ?_
  refine r_go (fun kk => e_l2i dX5_redo_20 kk) ?_
  refine r_go (fun kk => e_istore (lv' := [(4, .int ((nf (4 * i + 2)).toInt32)), (3, .int (nI j)), (0, .ref F), (1, .int (nI i)), (2, .ref (Y.1 0))]) dX5_redo_21 (by decide) rfl kk) ?_
  refine r_go (fun kk => e_aload_n 2 dX5_redo_23 rfl kk) ?_
  refine r_go (fun kk => e_getP (some AN.1) dX5_redo_24 fl_X5_19 rfl hF hA kk) ?_
  refine r_go (fun kk => e_iload_n 3 dX5_redo_27 rfl kk) ?_
  refine r_go (fun kk => e_ic (nI 3) dX5_redo_28 (by decide) kk) ?_
  refine r_go (fun kk => e_callV (ci := 1) (st := []) (st1 := [.long (nf (4 * i + 3))]) (As := [.int (nI i), .int (nI 3)]) (k_notesGet (G := G) hN hi (j := 3) (by omega)) dX5_redo_29 (by decide) cm_X1_get lk_X5_215 im_X1_get rfl sel_X1_get hN.1.1 rfl rfl (Nat.le_of_ble_eq_true rfl) rfl kk) ?_
  refine r_go (fun kk => e_l2i dX5_redo_32 kk) ?_
  refine r_go (fun kk => e_istore (lv' := [(5, .int ((nf (4 * i + 3)).toInt32)), (4, .int ((nf (4 * i + 2)).toInt32)), (3, .int (nI j)), (0, .ref F), (1, .int (nI i)), (2, .ref (Y.1 0))]) dX5_redo_33 (by decide) rfl kk) ?_
  refine r_go (fun kk => e_aload_n 5 dX5_redo_35 rfl kk) ?_
  refine r_go (fun kk => e_iload_n 2 dX5_redo_36 rfl kk) ?_
  refine r_go (fun kk => e_callV (ci := 0) (st := []) (st1 := [.ref (Y.1 (9 + j))]) (As := [.int (nI j)]) (k_taskAt (G := G) hq hj) dX5_redo_37 (by decide) cm_X0_taskAt lk_X5_112 im_X0_taskAt rfl sel_X0_taskAt (hq.T 0 (by decide)) rfl rfl (Nat.le_of_ble_eq_true rfl) rfl kk) ?_
  refine r_go (fun kk => e_astore (lv' := [(6, .ref (Y.1 (9 + j))), (5, .int ((nf (4 * i + 3)).toInt32)), (4, .int ((nf (4 * i + 2)).toInt32)), (3, .int (nI j)), (0, .ref F), (1, .int (nI i)), (2, .ref (Y.1 0))]) dX5_redo_40 (by decide) rfl kk) ?_
  refine r_go (fun kk => e_aload_n 6 dX5_redo_42 rfl kk) ?_
  refine r_go (fun kk => e_iload_n 3 dX5_redo_43 rfl kk) ?_
  refine r_go (fun kk => e_callV (ci := 0) (st := []) (st1 := [.null]) (As := [.int (nI j)]) (k_programAtN (G := G) hq hy) dX5_redo_44 (by decide) cm_X0_programAt lk_X5_39 im_X0_programAt rfl sel_X0_programAt (hq.T 0 (by decide)) rfl rfl (Nat.le_of_ble_eq_true rfl) rfl kk) ?_
  refine r_go (fun kk => e_astoreN (lv' := [(7, .null), (6, .ref (Y.1 (9 + j))), (5, .int ((nf (4 * i + 3)).toInt32)), (4, .int ((nf (4 * i + 2)).toInt32)), (3, .int (nI j)), (0, .ref F), (1, .int (nI i)), (2, .ref (Y.1 0))]) dX5_redo_47 (by decide) rfl kk) ?_
  refine r_go (fun kk => e_aload_n 5 dX5_redo_49 rfl kk) ?_
  refine r_go (fun kk => e_getP (some AN.1) dX5_redo_50 fl_X5_19 rfl hF hA kk) ?_
  refine r_go (fun kk => e_iload_n 6 dX5_redo_53 rfl kk) ?_
  refine r_go (fun kk => e_ic (nI 0) dX5_redo_54 (by decide) kk) ?_
  refine r_go (fun kk => e_callV (ci := 1) (st := []) (st1 := [.long (nf (4 * i + 0))]) (As := [.int (nI i), .int (nI 0)]) (k_notesGet (G := G) hN hi (j := 0) (by omega)) dX5_redo_55 (by decide) cm_X1_get lk_X5_215 im_X1_get rfl sel_X1_get hN.1.1 rfl rfl (Nat.le_of_ble_eq_true rfl) rfl kk) ?_
  refine r_go (fun kk => e_l2i dX5_redo_58 kk) ?_
  refine r_go (fun kk => e_iv (w := nI 5) (by rw [show nf (4 * i + 0) = _ from e0, lN_i]) kk) ?_
  refine r_go (fun kk => e_tabIn (off := 129) 188 dX5_redo_59 (by decide) (by decide) (by decide) (by decide) kk) ?_
  refine r_go (fun kk => e_aload_n 7 dX5_redo_188 rfl kk) ?_
  refine r_go (fun kk => e_iload_n 4 dX5_redo_189 rfl kk) ?_
  obtain ⟨_, m2, ⟨rfl, hq2⟩, E0x190⟩ := k_addLock (G := G) hq (by omega) (l := j) hl
  refine r_go (fun kk => e_callV (ci := 0) (st := []) (st1 := []) (As := [.int (nI j)]) (E0x190) dX5_redo_190 (by decide) cm_X0_addLock lk_X5_98 im_X0_addLock rfl sel_X0_addLock (hq.T 0 (by decide)) rfl rfl (Nat.le_of_ble_eq_true rfl) rfl kk) ?_
  obtain ⟨Y2, hY2, hq2⟩ : ∃ Y2 : YY, Y2.1 0 = Y.1 0 ∧ KQ Z m2 Y2 102000 (upd k (240 + j) (-1)) v n := ⟨Y, rfl, hq2⟩
  refine r_go (fun kk => e_goto 214 dX5_redo_193 (by decide) kk) ?_
  exact r_ret ⟨rfl, Y2, hY2, hq2⟩ (e_retV dX5_redo_214 rfl rfl)

set_option maxRecDepth 100000 in
set_option maxHeartbeats 4000000 in
theorem redo7JN (hF : gT m F = 6) (hA : gP m 101 F = some AN.1) (hN : NS m o 10 AN s nf) (hq : KQ Z m Y 102000 k v n) (hi : i < s) {j : Nat} (hj31 : j < 2 ^ 31) (e1 : nf (4 * i + 1) = lN j) {n2 : Nat} (hW : WF k n) {z : Nat} (hN1 : j ≤ 1000) (hz : z + j ≤ 1001000) (hG : WG k v z (8000 * z)) (h0 : k 0 = nI z) (lf : Nat → Int32) (e4 : (rnL j (k, v, lf) 0).1.1 1 = nI n2) (e5 : n2 ≤ 200) (hj : j < n) (hy : inI (nI j) (nI 0) (nI 31) = false) (e0 : nf (4 * i) = lN 7) : EvC G 6 uX5_redo [.ref F, .int (nI i), .ref (Y.1 0)] m (fun r mm => r = none ∧ ∃ Y2, Y2.1 0 = Y.1 0 ∧ KQ Z mm Y2 102000 ((rnL j (k, v, lf) 0).1.1) ((rnL j (k, v, lf) 0).1.2.1) n2) := by
  refine EvC.of (by decide +kernel) (Nat.le_of_ble_eq_true rfl) ?_
  have hn2 := hq.n2
  have hs1 := hN.2.2.2.2.1
  refine r_go (fun kk => e_lvs (lv' := [(0, .ref F), (1, .int (nI i)), (2, .ref (Y.1 0))]) rfl kk) ?_
  refine r_go (fun kk => e_aload_n 0 dX5_redo_0 rfl kk) ?_
  refine r_go (fun kk => e_getP (some AN.1) dX5_redo_1 fl_X5_19 rfl hF hA kk) ?_
  refine r_go (fun kk => e_iload_n 1 dX5_redo_4 rfl kk) ?_
  refine r_go (fun kk => e_ic (nI 1) dX5_redo_5 (by decide) kk) ?_
  refine r_go (fun kk => e_callV (ci := 1) (st := []) (st1 := [.long (nf (4 * i + 1))]) (As := [.int (nI i), .int (nI 1)]) (k_notesGet (G := G) hN hi (j := 1) (by omega)) dX5_redo_6 (by decide) cm_X1_get lk_X5_215 im_X1_get rfl sel_X1_get hN.1.1 rfl rfl (Nat.le_of_ble_eq_true rfl) rfl kk) ?_
  refine r_go (fun kk => e_l2i dX5_redo_9 kk) ?_
  refine r_go (fun kk => e_iv (w := nI j) (by rw [e1, lN_i]) kk) ?_
  refine r_go (fun kk => e_istore_n (lv' := [(3, .int (nI j)), (0, .ref F), (1, .int (nI i)), (2, .ref (Y.1 0))]) dX5_redo_10 (by decide) rfl kk) ?_
  refine r_go (fun kk => e_aload_n 1 dX5_redo_11 rfl kk) ?_
  refine r_go (fun kk => e_getP (some AN.1) dX5_redo_12 fl_X5_19 rfl hF hA kk) ?_
  refine r_go (fun kk => e_iload_n 2 dX5_redo_15 rfl kk) ?_
  refine r_go (fun kk => e_ic (nI 2) dX5_redo_16 (by decide) kk) ?_
  refine r_go (fun kk => e_callV (ci := 1) (st := []) (st1 := [.long (nf (4 * i + 2))]) (As := [.int (nI i), .int (nI 2)]) (k_notesGet (G := G) hN hi (j := 2) (by omega)) dX5_redo_17 (by decide) cm_X1_get lk_X5_215 im_X1_get rfl sel_X1_get hN.1.1 rfl rfl (Nat.le_of_ble_eq_true rfl) rfl kk) ?_
  refine r_go (fun kk => e_l2i dX5_redo_20 kk) ?_
  refine r_go (fun kk => e_istore (lv' := [(4, .int ((nf (4 * i + 2)).toInt32)), (3, .int (nI j)), (0, .ref F), (1, .int (nI i)), (2, .ref (Y.1 0))]) dX5_redo_21 (by decide) rfl kk) ?_
  refine r_go (fun kk => e_aload_n 2 dX5_redo_23 rfl kk) ?_
  refine r_go (fun kk => e_getP (some AN.1) dX5_redo_24 fl_X5_19 rfl hF hA kk) ?_
  refine r_go (fun kk => e_iload_n 3 dX5_redo_27 rfl kk) ?_
  refine r_go (fun kk => e_ic (nI 3) dX5_redo_28 (by decide) kk) ?_
  refine r_go (fun kk => e_callV (ci := 1) (st := []) (st1 := [.long (nf (4 * i + 3))]) (As := [.int (nI i), .int (nI 3)]) (k_notesGet (G := G) hN hi (j := 3) (by omega)) dX5_redo_29 (by decide) cm_X1_get lk_X5_215 im_X1_get rfl sel_X1_get hN.1.1 rfl rfl (Nat.le_of_ble_eq_true rfl) rfl kk) ?_
  refine r_go (fun kk => e_l2i dX5_redo_32 kk) ?_
  refine r_go (fun kk => e_istore (lv' := [(5, .int ((nf (4 * i + 3)).toInt32)), (4, .int ((nf (4 * i + 2)).toInt32)), (3, .int (nI j)), (0, .ref F), (1, .int (nI i)), (2, .ref (Y.1 0))]) dX5_redo_33 (by decide) rfl kk) ?_
  refine r_go (fun kk => e_aload_n 5 dX5_redo_35 rfl kk) ?_
  refine r_go (fun kk => e_iload_n 2 dX5_redo_36 rfl kk) ?_
  refine r_go (fun kk => e_callV (ci := 0) (st := []) (st1 := [.ref (Y.1 (9 + j))]) (As := [.int (nI j)]) (k_taskAt (G := G) hq hj) dX5_redo_37 (by decide) cm_X0_taskAt lk_X5_112 im_X0_taskAt rfl sel_X0_taskAt (hq.T 0 (by decide)) rfl rfl (Nat.le_of_ble_eq_true rfl) rfl kk) ?_
  refine r_go (fun kk => e_astore (lv' := [(6, .ref (Y.1 (9 + j))), (5, .int ((nf (4 * i + 3)).toInt32)), (4, .int ((nf (4 * i + 2)).toInt32)), (3, .int (nI j)), (0, .ref F), (1, .int (nI i)), (2, .ref (Y.1 0))]) dX5_redo_40 (by decide) rfl kk) ?_
  refine r_go (fun kk => e_aload_n 6 dX5_redo_42 rfl kk) ?_
  refine r_go (fun kk => e_iload_n 3 dX5_redo_43 rfl kk) ?_
  refine r_go (fun kk => e_callV (ci := 0) (st := []) (st1 := [.null]) (As := [.int (nI j)]) (k_programAtN (G := G) hq hy) dX5_redo_44 (by decide) cm_X0_programAt lk_X5_39 im_X0_programAt rfl sel_X0_programAt (hq.T 0 (by decide)) rfl rfl (Nat.le_of_ble_eq_true rfl) rfl kk) ?_
  refine r_go (fun kk => e_astoreN (lv' := [(7, .null), (6, .ref (Y.1 (9 + j))), (5, .int ((nf (4 * i + 3)).toInt32)), (4, .int ((nf (4 * i + 2)).toInt32)), (3, .int (nI j)), (0, .ref F), (1, .int (nI i)), (2, .ref (Y.1 0))]) dX5_redo_47 (by decide) rfl kk) ?_
  refine r_go (fun kk => e_aload_n 5 dX5_redo_49 rfl kk) ?_
  refine r_go (fun kk => e_getP (some AN.1) dX5_redo_50 fl_X5_19 rfl hF hA kk) ?_
  refine r_go (fun kk => e_iload_n 6 dX5_redo_53 rfl kk) ?_
  refine r_go (fun kk => e_ic (nI 0) dX5_redo_54 (by decide) kk) ?_
  refine r_go (fun kk => e_callV (ci := 1) (st := []) (st1 := [.long (nf (4 * i + 0))]) (As := [.int (nI i), .int (nI 0)]) (k_notesGet (G := G) hN hi (j := 0) (by omega)) dX5_redo_55 (by decide) cm_X1_get lk_X5_215 im_X1_get rfl sel_X1_get hN.1.1 rfl rfl (Nat.le_of_ble_eq_true rfl) rfl kk) ?_
  refine r_go (fun kk => e_l2i dX5_redo_58 kk) ?_
  refine r_go (fun kk => e_iv (w := nI 7) (by rw [show nf (4 * i + 0) = _ from e0, lN_i]) kk) ?_
  refine r_go (fun kk => e_tabIn (off := 146) 205 dX5_redo_59 (by decide) (by decide) (by decide) (by decide) kk) ?_
  refine r_go (fun kk => e_aload_n 7 dX5_redo_205 rfl kk) ?_
  refine r_go (fun kk => e_iload_n 4 dX5_redo_206 rfl kk) ?_
  obtain ⟨_, m2, ⟨rfl, Y3, n3, hn3, hSm, hq2⟩, E0x207⟩ := k_goOn (G := G) hq (by omega) (Or.inr rfl) hW hN1 hz hG h0 lf
  refine r_go (fun kk => e_callV (ci := 0) (st := []) (st1 := [.int (nI ((rnL j (k, v, lf) 0).2))]) (As := [.int (nI j)]) (E0x207) dX5_redo_207 (by decide) cm_X0_goOn lk_X5_105 im_X0_goOn rfl sel_X0_goOn (hq.T 0 (by decide)) rfl rfl (Nat.le_of_ble_eq_true rfl) rfl kk) ?_
  have en : n3 = n2 := (nI_eq (by have := hq2.n2; omega) (by omega)).mp (hq2.n1.symm.trans e4)
  rw [en] at hq2
  obtain ⟨Y2, hY2, hq2⟩ : ∃ Y2 : YY, Y2.1 0 = Y.1 0 ∧ KQ Z m2 Y2 102000 ((rnL j (k, v, lf) 0).1.1) ((rnL j (k, v, lf) 0).1.2.1) n2 := ⟨Y3, hSm 0 (by omega), hq2⟩
  refine r_go (fun kk => e_pop dX5_redo_210 rfl kk) ?_
  refine r_go (fun kk => e_goto 214 dX5_redo_211 (by decide) kk) ?_
  exact r_ret ⟨rfl, Y2, hY2, hq2⟩ (e_retV dX5_redo_214 rfl rfl)

set_option maxRecDepth 100000 in
set_option maxHeartbeats 4000000 in
theorem redo5NJ (hF : gT m F = 6) (hA : gP m 101 F = some AN.1) (hN : NS m o 10 AN s nf) (hq : KQ Z m Y 102000 k v n) (hi : i < s) {j : Nat} (hj31 : j < 2 ^ 31) (e1 : nf (4 * i + 1) = lN j) (hl : j < 100) (hx : tIn k (nI j) = false) (hp : j < 32) (e0 : nf (4 * i) = lN 5) : EvC G 6 uX5_redo [.ref F, .int (nI i), .ref (Y.1 0)] m (fun r mm => r = none ∧ ∃ Y2, Y2.1 0 = Y.1 0 ∧ KQ Z mm Y2 102000 (upd k (240 + j) (-1)) v n) := by
  refine EvC.of (by decide +kernel) (Nat.le_of_ble_eq_true rfl) ?_
  have hn2 := hq.n2
  have hs1 := hN.2.2.2.2.1
  refine r_go (fun kk => e_lvs (lv' := [(0, .ref F), (1, .int (nI i)), (2, .ref (Y.1 0))]) rfl kk) ?_
  refine r_go (fun kk => e_aload_n 0 dX5_redo_0 rfl kk) ?_
  refine r_go (fun kk => e_getP (some AN.1) dX5_redo_1 fl_X5_19 rfl hF hA kk) ?_
  refine r_go (fun kk => e_iload_n 1 dX5_redo_4 rfl kk) ?_
  refine r_go (fun kk => e_ic (nI 1) dX5_redo_5 (by decide) kk) ?_
  refine r_go (fun kk => e_callV (ci := 1) (st := []) (st1 := [.long (nf (4 * i + 1))]) (As := [.int (nI i), .int (nI 1)]) (k_notesGet (G := G) hN hi (j := 1) (by omega)) dX5_redo_6 (by decide) cm_X1_get lk_X5_215 im_X1_get rfl sel_X1_get hN.1.1 rfl rfl (Nat.le_of_ble_eq_true rfl) rfl kk) ?_
  refine r_go (fun kk => e_l2i dX5_redo_9 kk) ?_
  refine r_go (fun kk => e_iv (w := nI j) (by rw [e1, lN_i]) kk) ?_
  refine r_go (fun kk => e_istore_n (lv' := [(3, .int (nI j)), (0, .ref F), (1, .int (nI i)), (2, .ref (Y.1 0))]) dX5_redo_10 (by decide) rfl kk) ?_
  refine r_go (fun kk => e_aload_n 1 dX5_redo_11 rfl kk) ?_
  refine r_go (fun kk => e_getP (some AN.1) dX5_redo_12 fl_X5_19 rfl hF hA kk) ?_
  refine r_go (fun kk => e_iload_n 2 dX5_redo_15 rfl kk) ?_
  refine r_go (fun kk => e_ic (nI 2) dX5_redo_16 (by decide) kk) ?_
  refine r_go (fun kk => e_callV (ci := 1) (st := []) (st1 := [.long (nf (4 * i + 2))]) (As := [.int (nI i), .int (nI 2)]) (k_notesGet (G := G) hN hi (j := 2) (by omega)) dX5_redo_17 (by decide) cm_X1_get lk_X5_215 im_X1_get rfl sel_X1_get hN.1.1 rfl rfl (Nat.le_of_ble_eq_true rfl) rfl kk) ?_
  refine r_go (fun kk => e_l2i dX5_redo_20 kk) ?_
  refine r_go (fun kk => e_istore (lv' := [(4, .int ((nf (4 * i + 2)).toInt32)), (3, .int (nI j)), (0, .ref F), (1, .int (nI i)), (2, .ref (Y.1 0))]) dX5_redo_21 (by decide) rfl kk) ?_
  refine r_go (fun kk => e_aload_n 2 dX5_redo_23 rfl kk) ?_
  refine r_go (fun kk => e_getP (some AN.1) dX5_redo_24 fl_X5_19 rfl hF hA kk) ?_
  refine r_go (fun kk => e_iload_n 3 dX5_redo_27 rfl kk) ?_
  refine r_go (fun kk => e_ic (nI 3) dX5_redo_28 (by decide) kk) ?_
  refine r_go (fun kk => e_callV (ci := 1) (st := []) (st1 := [.long (nf (4 * i + 3))]) (As := [.int (nI i), .int (nI 3)]) (k_notesGet (G := G) hN hi (j := 3) (by omega)) dX5_redo_29 (by decide) cm_X1_get lk_X5_215 im_X1_get rfl sel_X1_get hN.1.1 rfl rfl (Nat.le_of_ble_eq_true rfl) rfl kk) ?_
  refine r_go (fun kk => e_l2i dX5_redo_32 kk) ?_
  refine r_go (fun kk => e_istore (lv' := [(5, .int ((nf (4 * i + 3)).toInt32)), (4, .int ((nf (4 * i + 2)).toInt32)), (3, .int (nI j)), (0, .ref F), (1, .int (nI i)), (2, .ref (Y.1 0))]) dX5_redo_33 (by decide) rfl kk) ?_
  refine r_go (fun kk => e_aload_n 5 dX5_redo_35 rfl kk) ?_
  refine r_go (fun kk => e_iload_n 2 dX5_redo_36 rfl kk) ?_
  refine r_go (fun kk => e_callV (ci := 0) (st := []) (st1 := [.null]) (As := [.int (nI j)]) (k_taskAtN (G := G) hq hx) dX5_redo_37 (by decide) cm_X0_taskAt lk_X5_112 im_X0_taskAt rfl sel_X0_taskAt (hq.T 0 (by decide)) rfl rfl (Nat.le_of_ble_eq_true rfl) rfl kk) ?_
  refine r_go (fun kk => e_astoreN (lv' := [(6, .null), (5, .int ((nf (4 * i + 3)).toInt32)), (4, .int ((nf (4 * i + 2)).toInt32)), (3, .int (nI j)), (0, .ref F), (1, .int (nI i)), (2, .ref (Y.1 0))]) dX5_redo_40 (by decide) rfl kk) ?_
  refine r_go (fun kk => e_aload_n 6 dX5_redo_42 rfl kk) ?_
  refine r_go (fun kk => e_iload_n 3 dX5_redo_43 rfl kk) ?_
  refine r_go (fun kk => e_callV (ci := 0) (st := []) (st1 := [.ref (Y.1 (209 + j))]) (As := [.int (nI j)]) (k_programAt (G := G) hq (j := j) (by omega)) dX5_redo_44 (by decide) cm_X0_programAt lk_X5_39 im_X0_programAt rfl sel_X0_programAt (hq.T 0 (by decide)) rfl rfl (Nat.le_of_ble_eq_true rfl) rfl kk) ?_
  refine r_go (fun kk => e_astore (lv' := [(7, .ref (Y.1 (209 + j))), (6, .null), (5, .int ((nf (4 * i + 3)).toInt32)), (4, .int ((nf (4 * i + 2)).toInt32)), (3, .int (nI j)), (0, .ref F), (1, .int (nI i)), (2, .ref (Y.1 0))]) dX5_redo_47 (by decide) rfl kk) ?_
  refine r_go (fun kk => e_aload_n 5 dX5_redo_49 rfl kk) ?_
  refine r_go (fun kk => e_getP (some AN.1) dX5_redo_50 fl_X5_19 rfl hF hA kk) ?_
  refine r_go (fun kk => e_iload_n 6 dX5_redo_53 rfl kk) ?_
  refine r_go (fun kk => e_ic (nI 0) dX5_redo_54 (by decide) kk) ?_
  refine r_go (fun kk => e_callV (ci := 1) (st := []) (st1 := [.long (nf (4 * i + 0))]) (As := [.int (nI i), .int (nI 0)]) (k_notesGet (G := G) hN hi (j := 0) (by omega)) dX5_redo_55 (by decide) cm_X1_get lk_X5_215 im_X1_get rfl sel_X1_get hN.1.1 rfl rfl (Nat.le_of_ble_eq_true rfl) rfl kk) ?_
  refine r_go (fun kk => e_l2i dX5_redo_58 kk) ?_
  refine r_go (fun kk => e_iv (w := nI 5) (by rw [show nf (4 * i + 0) = _ from e0, lN_i]) kk) ?_
  refine r_go (fun kk => e_tabIn (off := 129) 188 dX5_redo_59 (by decide) (by decide) (by decide) (by decide) kk) ?_
  refine r_go (fun kk => e_aload_n 7 dX5_redo_188 rfl kk) ?_
  refine r_go (fun kk => e_iload_n 4 dX5_redo_189 rfl kk) ?_
  obtain ⟨_, m2, ⟨rfl, hq2⟩, E0x190⟩ := k_addLock (G := G) hq (by omega) (l := j) hl
  refine r_go (fun kk => e_callV (ci := 0) (st := []) (st1 := []) (As := [.int (nI j)]) (E0x190) dX5_redo_190 (by decide) cm_X0_addLock lk_X5_98 im_X0_addLock rfl sel_X0_addLock (hq.T 0 (by decide)) rfl rfl (Nat.le_of_ble_eq_true rfl) rfl kk) ?_
  obtain ⟨Y2, hY2, hq2⟩ : ∃ Y2 : YY, Y2.1 0 = Y.1 0 ∧ KQ Z m2 Y2 102000 (upd k (240 + j) (-1)) v n := ⟨Y, rfl, hq2⟩
  refine r_go (fun kk => e_goto 214 dX5_redo_193 (by decide) kk) ?_
  exact r_ret ⟨rfl, Y2, hY2, hq2⟩ (e_retV dX5_redo_214 rfl rfl)

set_option maxRecDepth 100000 in
set_option maxHeartbeats 4000000 in
theorem redo7NJ (hF : gT m F = 6) (hA : gP m 101 F = some AN.1) (hN : NS m o 10 AN s nf) (hq : KQ Z m Y 102000 k v n) (hi : i < s) {j : Nat} (hj31 : j < 2 ^ 31) (e1 : nf (4 * i + 1) = lN j) {n2 : Nat} (hW : WF k n) {z : Nat} (hN1 : j ≤ 1000) (hz : z + j ≤ 1001000) (hG : WG k v z (8000 * z)) (h0 : k 0 = nI z) (lf : Nat → Int32) (e4 : (rnL j (k, v, lf) 0).1.1 1 = nI n2) (e5 : n2 ≤ 200) (hx : tIn k (nI j) = false) (hp : j < 32) (e0 : nf (4 * i) = lN 7) : EvC G 6 uX5_redo [.ref F, .int (nI i), .ref (Y.1 0)] m (fun r mm => r = none ∧ ∃ Y2, Y2.1 0 = Y.1 0 ∧ KQ Z mm Y2 102000 ((rnL j (k, v, lf) 0).1.1) ((rnL j (k, v, lf) 0).1.2.1) n2) := by
  refine EvC.of (by decide +kernel) (Nat.le_of_ble_eq_true rfl) ?_
  have hn2 := hq.n2
  have hs1 := hN.2.2.2.2.1
  refine r_go (fun kk => e_lvs (lv' := [(0, .ref F), (1, .int (nI i)), (2, .ref (Y.1 0))]) rfl kk) ?_
  refine r_go (fun kk => e_aload_n 0 dX5_redo_0 rfl kk) ?_
  refine r_go (fun kk => e_getP (some AN.1) dX5_redo_1 fl_X5_19 rfl hF hA kk) ?_
  refine r_go (fun kk => e_iload_n 1 dX5_redo_4 rfl kk) ?_
  refine r_go (fun kk => e_ic (nI 1) dX5_redo_5 (by decide) kk) ?_
  refine r_go (fun kk => e_callV (ci := 1) (st := []) (st1 := [.long (nf (4 * i + 1))]) (As := [.int (nI i), .int (nI 1)]) (k_notesGet (G := G) hN hi (j := 1) (by omega)) dX5_redo_6 (by decide) cm_X1_get lk_X5_215 im_X1_get rfl sel_X1_get hN.1.1 rfl rfl (Nat.le_of_ble_eq_true rfl) rfl kk) ?_
  refine r_go (fun kk => e_l2i dX5_redo_9 kk) ?_
  refine r_go (fun kk => e_iv (w := nI j) (by rw [e1, lN_i]) kk) ?_
  refine r_go (fun kk => e_istore_n (lv' := [(3, .int (nI j)), (0, .ref F), (1, .int (nI i)), (2, .ref (Y.1 0))]) dX5_redo_10 (by decide) rfl kk) ?_
  refine r_go (fun kk => e_aload_n 1 dX5_redo_11 rfl kk) ?_
  refine r_go (fun kk => e_getP (some AN.1) dX5_redo_12 fl_X5_19 rfl hF hA kk) ?_
  refine r_go (fun kk => e_iload_n 2 dX5_redo_15 rfl kk) ?_
  refine r_go (fun kk => e_ic (nI 2) dX5_redo_16 (by decide) kk) ?_
  refine r_go (fun kk => e_callV (ci := 1) (st := []) (st1 := [.long (nf (4 * i + 2))]) (As := [.int (nI i), .int (nI 2)]) (k_notesGet (G := G) hN hi (j := 2) (by omega)) dX5_redo_17 (by decide) cm_X1_get lk_X5_215 im_X1_get rfl sel_X1_get hN.1.1 rfl rfl (Nat.le_of_ble_eq_true rfl) rfl kk) ?_
  refine r_go (fun kk => e_l2i dX5_redo_20 kk) ?_
  refine r_go (fun kk => e_istore (lv' := [(4, .int ((nf (4 * i + 2)).toInt32)), (3, .int (nI j)), (0, .ref F), (1, .int (nI i)), (2, .ref (Y.1 0))]) dX5_redo_21 (by decide) rfl kk) ?_
  refine r_go (fun kk => e_aload_n 2 dX5_redo_23 rfl kk) ?_
  refine r_go (fun kk => e_getP (some AN.1) dX5_redo_24 fl_X5_19 rfl hF hA kk) ?_
  refine r_go (fun kk => e_iload_n 3 dX5_redo_27 rfl kk) ?_
  refine r_go (fun kk => e_ic (nI 3) dX5_redo_28 (by decide) kk) ?_
  refine r_go (fun kk => e_callV (ci := 1) (st := []) (st1 := [.long (nf (4 * i + 3))]) (As := [.int (nI i), .int (nI 3)]) (k_notesGet (G := G) hN hi (j := 3) (by omega)) dX5_redo_29 (by decide) cm_X1_get lk_X5_215 im_X1_get rfl sel_X1_get hN.1.1 rfl rfl (Nat.le_of_ble_eq_true rfl) rfl kk) ?_
  refine r_go (fun kk => e_l2i dX5_redo_32 kk) ?_
  refine r_go (fun kk => e_istore (lv' := [(5, .int ((nf (4 * i + 3)).toInt32)), (4, .int ((nf (4 * i + 2)).toInt32)), (3, .int (nI j)), (0, .ref F), (1, .int (nI i)), (2, .ref (Y.1 0))]) dX5_redo_33 (by decide) rfl kk) ?_
  refine r_go (fun kk => e_aload_n 5 dX5_redo_35 rfl kk) ?_
  refine r_go (fun kk => e_iload_n 2 dX5_redo_36 rfl kk) ?_
  refine r_go (fun kk => e_callV (ci := 0) (st := []) (st1 := [.null]) (As := [.int (nI j)]) (k_taskAtN (G := G) hq hx) dX5_redo_37 (by decide) cm_X0_taskAt lk_X5_112 im_X0_taskAt rfl sel_X0_taskAt (hq.T 0 (by decide)) rfl rfl (Nat.le_of_ble_eq_true rfl) rfl kk) ?_
  refine r_go (fun kk => e_astoreN (lv' := [(6, .null), (5, .int ((nf (4 * i + 3)).toInt32)), (4, .int ((nf (4 * i + 2)).toInt32)), (3, .int (nI j)), (0, .ref F), (1, .int (nI i)), (2, .ref (Y.1 0))]) dX5_redo_40 (by decide) rfl kk) ?_
  refine r_go (fun kk => e_aload_n 6 dX5_redo_42 rfl kk) ?_
  refine r_go (fun kk => e_iload_n 3 dX5_redo_43 rfl kk) ?_
  refine r_go (fun kk => e_callV (ci := 0) (st := []) (st1 := [.ref (Y.1 (209 + j))]) (As := [.int (nI j)]) (k_programAt (G := G) hq (j := j) (by omega)) dX5_redo_44 (by decide) cm_X0_programAt lk_X5_39 im_X0_programAt rfl sel_X0_programAt (hq.T 0 (by decide)) rfl rfl (Nat.le_of_ble_eq_true rfl) rfl kk) ?_
  refine r_go (fun kk => e_astore (lv' := [(7, .ref (Y.1 (209 + j))), (6, .null), (5, .int ((nf (4 * i + 3)).toInt32)), (4, .int ((nf (4 * i + 2)).toInt32)), (3, .int (nI j)), (0, .ref F), (1, .int (nI i)), (2, .ref (Y.1 0))]) dX5_redo_47 (by decide) rfl kk) ?_
  refine r_go (fun kk => e_aload_n 5 dX5_redo_49 rfl kk) ?_
  refine r_go (fun kk => e_getP (some AN.1) dX5_redo_50 fl_X5_19 rfl hF hA kk) ?_
  refine r_go (fun kk => e_iload_n 6 dX5_redo_53 rfl kk) ?_
  refine r_go (fun kk => e_ic (nI 0) dX5_redo_54 (by decide) kk) ?_
  refine r_go (fun kk => e_callV (ci := 1) (st := []) (st1 := [.long (nf (4 * i + 0))]) (As := [.int (nI i), .int (nI 0)]) (k_notesGet (G := G) hN hi (j := 0) (by omega)) dX5_redo_55 (by decide) cm_X1_get lk_X5_215 im_X1_get rfl sel_X1_get hN.1.1 rfl rfl (Nat.le_of_ble_eq_true rfl) rfl kk) ?_
  refine r_go (fun kk => e_l2i dX5_redo_58 kk) ?_
  refine r_go (fun kk => e_iv (w := nI 7) (by rw [show nf (4 * i + 0) = _ from e0, lN_i]) kk) ?_
  refine r_go (fun kk => e_tabIn (off := 146) 205 dX5_redo_59 (by decide) (by decide) (by decide) (by decide) kk) ?_
  refine r_go (fun kk => e_aload_n 7 dX5_redo_205 rfl kk) ?_
  refine r_go (fun kk => e_iload_n 4 dX5_redo_206 rfl kk) ?_
  obtain ⟨_, m2, ⟨rfl, Y3, n3, hn3, hSm, hq2⟩, E0x207⟩ := k_goOn (G := G) hq (by omega) (Or.inr rfl) hW hN1 hz hG h0 lf
  refine r_go (fun kk => e_callV (ci := 0) (st := []) (st1 := [.int (nI ((rnL j (k, v, lf) 0).2))]) (As := [.int (nI j)]) (E0x207) dX5_redo_207 (by decide) cm_X0_goOn lk_X5_105 im_X0_goOn rfl sel_X0_goOn (hq.T 0 (by decide)) rfl rfl (Nat.le_of_ble_eq_true rfl) rfl kk) ?_
  have en : n3 = n2 := (nI_eq (by have := hq2.n2; omega) (by omega)).mp (hq2.n1.symm.trans e4)
  rw [en] at hq2
  obtain ⟨Y2, hY2, hq2⟩ : ∃ Y2 : YY, Y2.1 0 = Y.1 0 ∧ KQ Z m2 Y2 102000 ((rnL j (k, v, lf) 0).1.1) ((rnL j (k, v, lf) 0).1.2.1) n2 := ⟨Y3, hSm 0 (by omega), hq2⟩
  refine r_go (fun kk => e_pop dX5_redo_210 rfl kk) ?_
  refine r_go (fun kk => e_goto 214 dX5_redo_211 (by decide) kk) ?_
  exact r_ret ⟨rfl, Y2, hY2, hq2⟩ (e_retV dX5_redo_214 rfl rfl)

set_option maxRecDepth 100000 in
set_option maxHeartbeats 4000000 in
theorem redo5NN (hF : gT m F = 6) (hA : gP m 101 F = some AN.1) (hN : NS m o 10 AN s nf) (hq : KQ Z m Y 102000 k v n) (hi : i < s) {j : Nat} (hj31 : j < 2 ^ 31) (e1 : nf (4 * i + 1) = lN j) (hl : j < 100) (hx : tIn k (nI j) = false) (hy : inI (nI j) (nI 0) (nI 31) = false) (e0 : nf (4 * i) = lN 5) : EvC G 6 uX5_redo [.ref F, .int (nI i), .ref (Y.1 0)] m (fun r mm => r = none ∧ ∃ Y2, Y2.1 0 = Y.1 0 ∧ KQ Z mm Y2 102000 (upd k (240 + j) (-1)) v n) := by
  refine EvC.of (by decide +kernel) (Nat.le_of_ble_eq_true rfl) ?_
  have hn2 := hq.n2
  have hs1 := hN.2.2.2.2.1
  refine r_go (fun kk => e_lvs (lv' := [(0, .ref F), (1, .int (nI i)), (2, .ref (Y.1 0))]) rfl kk) ?_
  refine r_go (fun kk => e_aload_n 0 dX5_redo_0 rfl kk) ?_
  refine r_go (fun kk => e_getP (some AN.1) dX5_redo_1 fl_X5_19 rfl hF hA kk) ?_
  refine r_go (fun kk => e_iload_n 1 dX5_redo_4 rfl kk) ?_
  refine r_go (fun kk => e_ic (nI 1) dX5_redo_5 (by decide) kk) ?_
  refine r_go (fun kk => e_callV (ci := 1) (st := []) (st1 := [.long (nf (4 * i + 1))]) (As := [.int (nI i), .int (nI 1)]) (k_notesGet (G := G) hN hi (j := 1) (by omega)) dX5_redo_6 (by decide) cm_X1_get lk_X5_215 im_X1_get rfl sel_X1_get hN.1.1 rfl rfl (Nat.le_of_ble_eq_true rfl) rfl kk) ?_
  refine r_go (fun kk => e_l2i dX5_redo_9 kk) ?_
  refine r_go (fun kk => e_iv (w := nI j) (by rw [e1, lN_i]) kk) ?_
  refine r_go (fun kk => e_istore_n (lv' := [(3, .int (nI j)), (0, .ref F), (1, .int (nI i)), (2, .ref (Y.1 0))]) dX5_redo_10 (by decide) rfl kk) ?_
  refine r_go (fun kk => e_aload_n 1 dX5_redo_11 rfl kk) ?_
  refine r_go (fun kk => e_getP (some AN.1) dX5_redo_12 fl_X5_19 rfl hF hA kk) ?_
  refine r_go (fun kk => e_iload_n 2 dX5_redo_15 rfl kk) ?_
  refine r_go (fun kk => e_ic (nI 2) dX5_redo_16 (by decide) kk) ?_
  refine r_go (fun kk => e_callV (ci := 1) (st := []) (st1 := [.long (nf (4 * i + 2))]) (As := [.int (nI i), .int (nI 2)]) (k_notesGet (G := G) hN hi (j := 2) (by omega)) dX5_redo_17 (by decide) cm_X1_get lk_X5_215 im_X1_get rfl sel_X1_get hN.1.1 rfl rfl (Nat.le_of_ble_eq_true rfl) rfl kk) ?_
  refine r_go (fun kk => e_l2i dX5_redo_20 kk) ?_
  refine r_go (fun kk => e_istore (lv' := [(4, .int ((nf (4 * i + 2)).toInt32)), (3, .int (nI j)), (0, .ref F), (1, .int (nI i)), (2, .ref (Y.1 0))]) dX5_redo_21 (by decide) rfl kk) ?_
  refine r_go (fun kk => e_aload_n 2 dX5_redo_23 rfl kk) ?_
  refine r_go (fun kk => e_getP (some AN.1) dX5_redo_24 fl_X5_19 rfl hF hA kk) ?_
  refine r_go (fun kk => e_iload_n 3 dX5_redo_27 rfl kk) ?_
  refine r_go (fun kk => e_ic (nI 3) dX5_redo_28 (by decide) kk) ?_
  refine r_go (fun kk => e_callV (ci := 1) (st := []) (st1 := [.long (nf (4 * i + 3))]) (As := [.int (nI i), .int (nI 3)]) (k_notesGet (G := G) hN hi (j := 3) (by omega)) dX5_redo_29 (by decide) cm_X1_get lk_X5_215 im_X1_get rfl sel_X1_get hN.1.1 rfl rfl (Nat.le_of_ble_eq_true rfl) rfl kk) ?_
  refine r_go (fun kk => e_l2i dX5_redo_32 kk) ?_
  refine r_go (fun kk => e_istore (lv' := [(5, .int ((nf (4 * i + 3)).toInt32)), (4, .int ((nf (4 * i + 2)).toInt32)), (3, .int (nI j)), (0, .ref F), (1, .int (nI i)), (2, .ref (Y.1 0))]) dX5_redo_33 (by decide) rfl kk) ?_
  refine r_go (fun kk => e_aload_n 5 dX5_redo_35 rfl kk) ?_
  refine r_go (fun kk => e_iload_n 2 dX5_redo_36 rfl kk) ?_
  refine r_go (fun kk => e_callV (ci := 0) (st := []) (st1 := [.null]) (As := [.int (nI j)]) (k_taskAtN (G := G) hq hx) dX5_redo_37 (by decide) cm_X0_taskAt lk_X5_112 im_X0_taskAt rfl sel_X0_taskAt (hq.T 0 (by decide)) rfl rfl (Nat.le_of_ble_eq_true rfl) rfl kk) ?_
  refine r_go (fun kk => e_astoreN (lv' := [(6, .null), (5, .int ((nf (4 * i + 3)).toInt32)), (4, .int ((nf (4 * i + 2)).toInt32)), (3, .int (nI j)), (0, .ref F), (1, .int (nI i)), (2, .ref (Y.1 0))]) dX5_redo_40 (by decide) rfl kk) ?_
  refine r_go (fun kk => e_aload_n 6 dX5_redo_42 rfl kk) ?_
  refine r_go (fun kk => e_iload_n 3 dX5_redo_43 rfl kk) ?_
  refine r_go (fun kk => e_callV (ci := 0) (st := []) (st1 := [.null]) (As := [.int (nI j)]) (k_programAtN (G := G) hq hy) dX5_redo_44 (by decide) cm_X0_programAt lk_X5_39 im_X0_programAt rfl sel_X0_programAt (hq.T 0 (by decide)) rfl rfl (Nat.le_of_ble_eq_true rfl) rfl kk) ?_
  refine r_go (fun kk => e_astoreN (lv' := [(7, .null), (6, .null), (5, .int ((nf (4 * i + 3)).toInt32)), (4, .int ((nf (4 * i + 2)).toInt32)), (3, .int (nI j)), (0, .ref F), (1, .int (nI i)), (2, .ref (Y.1 0))]) dX5_redo_47 (by decide) rfl kk) ?_
  refine r_go (fun kk => e_aload_n 5 dX5_redo_49 rfl kk) ?_
  refine r_go (fun kk => e_getP (some AN.1) dX5_redo_50 fl_X5_19 rfl hF hA kk) ?_
  refine r_go (fun kk => e_iload_n 6 dX5_redo_53 rfl kk) ?_
  refine r_go (fun kk => e_ic (nI 0) dX5_redo_54 (by decide) kk) ?_
  refine r_go (fun kk => e_callV (ci := 1) (st := []) (st1 := [.long (nf (4 * i + 0))]) (As := [.int (nI i), .int (nI 0)]) (k_notesGet (G := G) hN hi (j := 0) (by omega)) dX5_redo_55 (by decide) cm_X1_get lk_X5_215 im_X1_get rfl sel_X1_get hN.1.1 rfl rfl (Nat.le_of_ble_eq_true rfl) rfl kk) ?_
  refine r_go (fun kk => e_l2i dX5_redo_58 kk) ?_
  refine r_go (fun kk => e_iv (w := nI 5) (by rw [show nf (4 * i + 0) = _ from e0, lN_i]) kk) ?_
  refine r_go (fun kk => e_tabIn (off := 129) 188 dX5_redo_59 (by decide) (by decide) (by decide) (by decide) kk) ?_
  refine r_go (fun kk => e_aload_n 7 dX5_redo_188 rfl kk) ?_
  refine r_go (fun kk => e_iload_n 4 dX5_redo_189 rfl kk) ?_
  obtain ⟨_, m2, ⟨rfl, hq2⟩, E0x190⟩ := k_addLock (G := G) hq (by omega) (l := j) hl
  refine r_go (fun kk => e_callV (ci := 0) (st := []) (st1 := []) (As := [.int (nI j)]) (E0x190) dX5_redo_190 (by decide) cm_X0_addLock lk_X5_98 im_X0_addLock rfl sel_X0_addLock (hq.T 0 (by decide)) rfl rfl (Nat.le_of_ble_eq_true rfl) rfl kk) ?_
  obtain ⟨Y2, hY2, hq2⟩ : ∃ Y2 : YY, Y2.1 0 = Y.1 0 ∧ KQ Z m2 Y2 102000 (upd k (240 + j) (-1)) v n := ⟨Y, rfl, hq2⟩
  refine r_go (fun kk => e_goto 214 dX5_redo_193 (by decide) kk) ?_
  exact r_ret ⟨rfl, Y2, hY2, hq2⟩ (e_retV dX5_redo_214 rfl rfl)

set_option maxRecDepth 100000 in
set_option maxHeartbeats 4000000 in
theorem redo7NN (hF : gT m F = 6) (hA : gP m 101 F = some AN.1) (hN : NS m o 10 AN s nf) (hq : KQ Z m Y 102000 k v n) (hi : i < s) {j : Nat} (hj31 : j < 2 ^ 31) (e1 : nf (4 * i + 1) = lN j) {n2 : Nat} (hW : WF k n) {z : Nat} (hN1 : j ≤ 1000) (hz : z + j ≤ 1001000) (hG : WG k v z (8000 * z)) (h0 : k 0 = nI z) (lf : Nat → Int32) (e4 : (rnL j (k, v, lf) 0).1.1 1 = nI n2) (e5 : n2 ≤ 200) (hx : tIn k (nI j) = false) (hy : inI (nI j) (nI 0) (nI 31) = false) (e0 : nf (4 * i) = lN 7) : EvC G 6 uX5_redo [.ref F, .int (nI i), .ref (Y.1 0)] m (fun r mm => r = none ∧ ∃ Y2, Y2.1 0 = Y.1 0 ∧ KQ Z mm Y2 102000 ((rnL j (k, v, lf) 0).1.1) ((rnL j (k, v, lf) 0).1.2.1) n2) := by
  refine EvC.of (by decide +kernel) (Nat.le_of_ble_eq_true rfl) ?_
  have hn2 := hq.n2
  have hs1 := hN.2.2.2.2.1
  refine r_go (fun kk => e_lvs (lv' := [(0, .ref F), (1, .int (nI i)), (2, .ref (Y.1 0))]) rfl kk) ?_
  refine r_go (fun kk => e_aload_n 0 dX5_redo_0 rfl kk) ?_
  refine r_go (fun kk => e_getP (some AN.1) dX5_redo_1 fl_X5_19 rfl hF hA kk) ?_
  refine r_go (fun kk => e_iload_n 1 dX5_redo_4 rfl kk) ?_
  refine r_go (fun kk => e_ic (nI 1) dX5_redo_5 (by decide) kk) ?_
  refine r_go (fun kk => e_callV (ci := 1) (st := []) (st1 := [.long (nf (4 * i + 1))]) (As := [.int (nI i), .int (nI 1)]) (k_notesGet (G := G) hN hi (j := 1) (by omega)) dX5_redo_6 (by decide) cm_X1_get lk_X5_215 im_X1_get rfl sel_X1_get hN.1.1 rfl rfl (Nat.le_of_ble_eq_true rfl) rfl kk) ?_
  refine r_go (fun kk => e_l2i dX5_redo_9 kk) ?_
  refine r_go (fun kk => e_iv (w := nI j) (by rw [e1, lN_i]) kk) ?_
  refine r_go (fun kk => e_istore_n (lv' := [(3, .int (nI j)), (0, .ref F), (1, .int (nI i)), (2, .ref (Y.1 0))]) dX5_redo_10 (by decide) rfl kk) ?_
  refine r_go (fun kk => e_aload_n 1 dX5_redo_11 rfl kk) ?_
  refine r_go (fun kk => e_getP (some AN.1) dX5_redo_12 fl_X5_19 rfl hF hA kk) ?_
  refine r_go (fun kk => e_iload_n 2 dX5_redo_15 rfl kk) ?_
  refine r_go (fun kk => e_ic (nI 2) dX5_redo_16 (by decide) kk) ?_
  refine r_go (fun kk => e_callV (ci := 1) (st := []) (st1 := [.long (nf (4 * i + 2))]) (As := [.int (nI i), .int (nI 2)]) (k_notesGet (G := G) hN hi (j := 2) (by omega)) dX5_redo_17 (by decide) cm_X1_get lk_X5_215 im_X1_get rfl sel_X1_get hN.1.1 rfl rfl (Nat.le_of_ble_eq_true rfl) rfl kk) ?_
  refine r_go (fun kk => e_l2i dX5_redo_20 kk) ?_
  refine r_go (fun kk => e_istore (lv' := [(4, .int ((nf (4 * i + 2)).toInt32)), (3, .int (nI j)), (0, .ref F), (1, .int (nI i)), (2, .ref (Y.1 0))]) dX5_redo_21 (by decide) rfl kk) ?_
  refine r_go (fun kk => e_aload_n 2 dX5_redo_23 rfl kk) ?_
  refine r_go (fun kk => e_getP (some AN.1) dX5_redo_24 fl_X5_19 rfl hF hA kk) ?_
  refine r_go (fun kk => e_iload_n 3 dX5_redo_27 rfl kk) ?_
  refine r_go (fun kk => e_ic (nI 3) dX5_redo_28 (by decide) kk) ?_
  refine r_go (fun kk => e_callV (ci := 1) (st := []) (st1 := [.long (nf (4 * i + 3))]) (As := [.int (nI i), .int (nI 3)]) (k_notesGet (G := G) hN hi (j := 3) (by omega)) dX5_redo_29 (by decide) cm_X1_get lk_X5_215 im_X1_get rfl sel_X1_get hN.1.1 rfl rfl (Nat.le_of_ble_eq_true rfl) rfl kk) ?_
  refine r_go (fun kk => e_l2i dX5_redo_32 kk) ?_
  refine r_go (fun kk => e_istore (lv' := [(5, .int ((nf (4 * i + 3)).toInt32)), (4, .int ((nf (4 * i + 2)).toInt32)), (3, .int (nI j)), (0, .ref F), (1, .int (nI i)), (2, .ref (Y.1 0))]) dX5_redo_33 (by decide) rfl kk) ?_
  refine r_go (fun kk => e_aload_n 5 dX5_redo_35 rfl kk) ?_
  refine r_go (fun kk => e_iload_n 2 dX5_redo_36 rfl kk) ?_
  refine r_go (fun kk => e_callV (ci := 0) (st := []) (st1 := [.null]) (As := [.int (nI j)]) (k_taskAtN (G := G) hq hx) dX5_redo_37 (by decide) cm_X0_taskAt lk_X5_112 im_X0_taskAt rfl sel_X0_taskAt (hq.T 0 (by decide)) rfl rfl (Nat.le_of_ble_eq_true rfl) rfl kk) ?_
  refine r_go (fun kk => e_astoreN (lv' := [(6, .null), (5, .int ((nf (4 * i + 3)).toInt32)), (4, .int ((nf (4 * i + 2)).toInt32)), (3, .int (nI j)), (0, .ref F), (1, .int (nI i)), (2, .ref (Y.1 0))]) dX5_redo_40 (by decide) rfl kk) ?_
  refine r_go (fun kk => e_aload_n 6 dX5_redo_42 rfl kk) ?_
  refine r_go (fun kk => e_iload_n 3 dX5_redo_43 rfl kk) ?_
  refine r_go (fun kk => e_callV (ci := 0) (st := []) (st1 := [.null]) (As := [.int (nI j)]) (k_programAtN (G := G) hq hy) dX5_redo_44 (by decide) cm_X0_programAt lk_X5_39 im_X0_programAt rfl sel_X0_programAt (hq.T 0 (by decide)) rfl rfl (Nat.le_of_ble_eq_true rfl) rfl kk) ?_
  refine r_go (fun kk => e_astoreN (lv' := [(7, .null), (6, .null), (5, .int ((nf (4 * i + 3)).toInt32)), (4, .int ((nf (4 * i + 2)).toInt32)), (3, .int (nI j)), (0, .ref F), (1, .int (nI i)), (2, .ref (Y.1 0))]) dX5_redo_47 (by decide) rfl kk) ?_
  refine r_go (fun kk => e_aload_n 5 dX5_redo_49 rfl kk) ?_
  refine r_go (fun kk => e_getP (some AN.1) dX5_redo_50 fl_X5_19 rfl hF hA kk) ?_
  refine r_go (fun kk => e_iload_n 6 dX5_redo_53 rfl kk) ?_
  refine r_go (fun kk => e_ic (nI 0) dX5_redo_54 (by decide) kk) ?_
  refine r_go (fun kk => e_callV (ci := 1) (st := []) (st1 := [.long (nf (4 * i + 0))]) (As := [.int (nI i), .int (nI 0)]) (k_notesGet (G := G) hN hi (j := 0) (by omega)) dX5_redo_55 (by decide) cm_X1_get lk_X5_215 im_X1_get rfl sel_X1_get hN.1.1 rfl rfl (Nat.le_of_ble_eq_true rfl) rfl kk) ?_
  refine r_go (fun kk => e_l2i dX5_redo_58 kk) ?_
  refine r_go (fun kk => e_iv (w := nI 7) (by rw [show nf (4 * i + 0) = _ from e0, lN_i]) kk) ?_
  refine r_go (fun kk => e_tabIn (off := 146) 205 dX5_redo_59 (by decide) (by decide) (by decide) (by decide) kk) ?_
  refine r_go (fun kk => e_aload_n 7 dX5_redo_205 rfl kk) ?_
  refine r_go (fun kk => e_iload_n 4 dX5_redo_206 rfl kk) ?_
  obtain ⟨_, m2, ⟨rfl, Y3, n3, hn3, hSm, hq2⟩, E0x207⟩ := k_goOn (G := G) hq (by omega) (Or.inr rfl) hW hN1 hz hG h0 lf
  refine r_go (fun kk => e_callV (ci := 0) (st := []) (st1 := [.int (nI ((rnL j (k, v, lf) 0).2))]) (As := [.int (nI j)]) (E0x207) dX5_redo_207 (by decide) cm_X0_goOn lk_X5_105 im_X0_goOn rfl sel_X0_goOn (hq.T 0 (by decide)) rfl rfl (Nat.le_of_ble_eq_true rfl) rfl kk) ?_
  have en : n3 = n2 := (nI_eq (by have := hq2.n2; omega) (by omega)).mp (hq2.n1.symm.trans e4)
  rw [en] at hq2
  obtain ⟨Y2, hY2, hq2⟩ : ∃ Y2 : YY, Y2.1 0 = Y.1 0 ∧ KQ Z m2 Y2 102000 ((rnL j (k, v, lf) 0).1.1) ((rnL j (k, v, lf) 0).1.2.1) n2 := ⟨Y3, hSm 0 (by omega), hq2⟩
  refine r_go (fun kk => e_pop dX5_redo_210 rfl kk) ?_
  refine r_go (fun kk => e_goto 214 dX5_redo_211 (by decide) kk) ?_
  exact r_ret ⟨rfl, Y2, hY2, hq2⟩ (e_retV dX5_redo_214 rfl rfl)

end Class34b
