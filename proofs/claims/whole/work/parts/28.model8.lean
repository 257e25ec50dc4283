/-! the reference: check, count, bound -/
section Model8
variable {G : GG} {m : Mem} {X : XX} {kf : KF} {vf : VF} {lf : Nat → Int32}
set_option maxRecDepth 100000 in
set_option maxHeartbeats 4000000 in
theorem m_check (hX : MW m X) {c : Nat} (hr : kf 3 = nI c) (hc : c ≤ 8000) : Ev G 0 uX6_check [.ref X.1] (MM m X (kf, vf, lf)) (some (.int (ckR kf))) (MM (sI m 126 X.1 (ckT kf)) X (kf, vf, lf)) := by
  refine Ev.of (by decide +kernel) (Nat.le_of_ble_eq_true rfl) ?_
  have hN : ckN kf = 5 * c := by rw [ckN, hr, nI_clamp (by omega)]
  have L : ∀ (k i : Nat), i + k = 5 * c → ckF kf i = none → EvB G 0 uX6_check (zz (MM m X (kf, vf, lf))) (nn (MM m X (kf, vf, lf))) (some (.int (ckR kf))) (MM (sI m 126 X.1 (ckT kf)) X (kf, vf, lf)) 2 [(1, .int (nI i)), (0, .ref X.1)] [] (MM m X (kf, vf, lf)) := by
    intro k
    induction k with
    | zero =>
      intro i hi hi2
      refine e_iload_n 0 dX6_check_2 rfl ?_
      refine e_ic (nI 5) dX6_check_3 (by decide) ?_
      refine e_aload_n 1 dX6_check_4 rfl ?_
      refine e_mk hX dX6_check_5 fl_X6_8 ?_
      refine e_ic (nI 3) dX6_check_8 (by decide) ?_
      refine e_kld hX dX6_check_9 (by omega) (e_iv (w := nI c) (hr) ?_)
      refine e_imulN dX6_check_10 ?_
      refine e_icmp_geN 65 dX6_check_11 (by decide) (by omega) (by omega) (fun _ => ?_) (fun h => absurd h (by omega))
      refine e_aload_n 1 dX6_check_65 rfl ?_
      refine e_aload_n 1 dX6_check_66 rfl ?_
      refine e_mk hX dX6_check_67 fl_X6_8 ?_
      refine e_ic (nI 0) dX6_check_70 (by decide) ?_
      refine e_kld hX dX6_check_71 (by omega) ?_
      refine e_putI (ci := 6) (k := 6) dX6_check_72 fl_X6_24 rfl (fun q h => by cases h; rfl) ⟨rfl, rfl⟩ hX.1 ?_
      refine e_mem (m' := MM (sI m 126 X.1 (kf (0))) X (kf, vf, lf)) rfl ?_
      refine e_ic ((-1)) dX6_check_75 (by decide) ?_
      exact e_retI dX6_check_76 rfl rfl (by rw [ckR, hN, ← show i = 5 * c by omega, hi2]) (by rw [ckT, hN, ← show i = 5 * c by omega, hi2])
    | succ k ih =>
      intro i hi hi2
      refine e_iload_n 0 dX6_check_2 rfl ?_
      refine e_ic (nI 5) dX6_check_3 (by decide) ?_
      refine e_aload_n 1 dX6_check_4 rfl ?_
      refine e_mk hX dX6_check_5 fl_X6_8 ?_
      refine e_ic (nI 3) dX6_check_8 (by decide) ?_
      refine e_kld hX dX6_check_9 (by omega) (e_iv (w := nI c) (hr) ?_)
      refine e_imulN dX6_check_10 ?_
      refine e_icmp_geN 65 dX6_check_11 (by decide) (by omega) (by omega) (fun h => absurd h (by omega)) (fun _ => ?_)
      refine e_aload_n 1 dX6_check_14 rfl ?_
      refine e_mk hX dX6_check_15 fl_X6_8 ?_
      refine e_ldc dX6_check_18 cs_X6_140 ?_
      refine e_iv (w := nI 62000) (by decide) ?_
      refine e_iload_n 0 dX6_check_20 rfl ?_
      refine e_iaddN dX6_check_21 ?_
      refine e_kld hX dX6_check_22 (by omega) ?_
      refine e_aload_n 1 dX6_check_23 rfl ?_
      refine e_mk hX dX6_check_24 fl_X6_8 ?_
      refine e_ldc dX6_check_27 cs_X6_141 ?_
      refine e_iv (w := nI 102000) (by decide) ?_
      refine e_iload_n 0 dX6_check_29 rfl ?_
      refine e_iaddN dX6_check_30 ?_
      refine e_kld hX dX6_check_31 (by omega) ?_
      refine e_icmp_ne 38 dX6_check_32 (by decide) (fun q1 => ?_) (fun q1 => ?_)
      · skip
        refine e_aload_n 1 dX6_check_38 rfl ?_
        refine e_aload_n 1 dX6_check_39 rfl ?_
        refine e_mk hX dX6_check_40 fl_X6_8 ?_
        refine e_ldc dX6_check_43 cs_X6_141 ?_
        refine e_iv (w := nI 102000) (by decide) ?_
        refine e_iload_n 0 dX6_check_45 rfl ?_
        refine e_ic (nI 5) dX6_check_46 (by decide) ?_
        refine e_idiv dX6_check_47 (by decide) ?_
        refine e_iv (w := nI (i / 5)) (pk_div (by omega) (by decide) (by decide)) ?_
        refine e_ic (nI 5) dX6_check_48 (by decide) ?_
        refine e_imulN dX6_check_49 ?_
        refine e_iaddN dX6_check_50 ?_
        refine e_kld hX dX6_check_51 (by omega) ?_
        refine e_putI (ci := 6) (k := 6) dX6_check_52 fl_X6_24 rfl (fun q h => by cases h; rfl) ⟨rfl, rfl⟩ hX.1 ?_
        refine e_mem (m' := MM (sI m 126 X.1 (kf (102000 + ((i / 5) * 5)))) X (kf, vf, lf)) rfl ?_
        refine e_iload_n 0 dX6_check_55 rfl ?_
        refine e_ic (nI 5) dX6_check_56 (by decide) ?_
        refine e_idiv dX6_check_57 (by decide) ?_
        refine e_iv (w := nI (i / 5)) (pk_div (by omega) (by decide) (by decide)) ?_
        have hs : ckF kf (5 * c) = some i := by rw [show 5 * c = (i + 1) + (5 * c - (i + 1)) by omega]; exact ck_keep (by show ckS kf i (ckF kf i) = some i; rw [hi2, ckS, if_neg q1]) _
        exact e_retI dX6_check_58 rfl rfl (by rw [ckR, hN, hs]) (by rw [ckT, hN, hs])
      · skip
        refine e_goto 59 dX6_check_35 (by decide) ?_
        refine e_iinc1N (lv' := [(1, .int (nI (i + 1))), (0, .ref X.1)]) 0 dX6_check_59 rfl (by decide) rfl ?_
        refine e_goto 2 dX6_check_62 (by decide) ?_
        refine e_sub [0, 1] rfl ?_
        exact ih (i + 1) (by omega) (by show ckS kf i (ckF kf i) = none; rw [hi2, ckS, if_pos q1])
  refine e_lvs (lv' := [(0, .ref X.1)]) rfl ?_
  refine e_ic (nI 0) dX6_check_0 (by decide) ?_
  refine e_istore_n (lv' := [(1, .int (nI 0)), (0, .ref X.1)]) dX6_check_1 (by decide) rfl ?_
  refine e_sub [0, 1] rfl ?_
  exact L (5 * c) 0 (by omega) rfl
set_option maxRecDepth 100000 in
set_option maxHeartbeats 4000000 in
theorem m_count (hX : MW m X) {n : Nat} (hn : kf 1 = nI n) (hn2 : n ≤ 200) {w : Int32} : Ev G 1 uX6_count [.ref X.1, .int w] (MM m X (kf, vf, lf)) (some (.int (cnR kf w))) (MM m X (kf, vf, lf)) := by
  refine Ev.of (by decide +kernel) (Nat.le_of_ble_eq_true rfl) ?_
  have L : ∀ (k i : Nat) (x y : Int32), i + k = n → (x, y) = lp (cnS kf) i (nI 0, nI 0) → EvB G 1 uX6_count (zz (MM m X (kf, vf, lf))) (nn (MM m X (kf, vf, lf))) (some (.int (cnR kf w))) (MM m X (kf, vf, lf)) 7 [(4, .int (nI i)), (3, .int y), (2, .int x), (0, .ref X.1), (1, .int w)] [] (MM m X (kf, vf, lf)) := by
    intro k
    induction k with
    | zero =>
      intro i x y hi hA
      have hA : (x, y) = cnF kf i := hA
      refine e_iload 0 dX6_count_7 rfl ?_
      refine e_aload_n 3 dX6_count_9 rfl ?_
      refine e_mk hX dX6_count_10 fl_X6_8 ?_
      refine e_ic (nI 1) dX6_count_13 (by decide) ?_
      refine e_kld hX dX6_count_14 (by omega) (e_iv (w := nI n) (hn) ?_)
      refine e_icmp_geN 63 dX6_count_15 (by decide) (by omega) (by omega) (fun _ => ?_) (fun h => absurd h (by omega))
      refine e_iload_n 4 dX6_count_63 rfl ?_
      by_cases hsw : inI w (nI 0) (nI 7) = true
      · skip
        obtain ⟨jsw, hsw1, hsw2, rfl⟩ := inI_n (by decide) (by decide) hsw
        rcases (show jsw = 0 ∨ jsw = 1 ∨ jsw = 2 ∨ jsw = 3 ∨ jsw = 4 ∨ jsw = 5 ∨ jsw = 6 ∨ jsw = 7 by omega) with rfl | rfl | rfl | rfl | rfl | rfl | rfl | rfl
        · skip
          refine e_tabIn (off := 48) 112 dX6_count_64 (by decide) (by decide) (by decide) (by decide) ?_
          refine e_aload_n 3 dX6_count_112 rfl ?_
          refine e_mk hX dX6_count_113 fl_X6_8 ?_
          refine e_ic (nI 0) dX6_count_116 (by decide) ?_
          refine e_kld hX dX6_count_117 (by omega) ?_
          exact e_retI dX6_count_118 rfl rfl (by rw [cnR, if_pos (by decide)]) rfl
        · skip
          refine e_tabIn (off := 55) 119 dX6_count_64 (by decide) (by decide) (by decide) (by decide) ?_
          refine e_aload_n 3 dX6_count_119 rfl ?_
          refine e_mk hX dX6_count_120 fl_X6_8 ?_
          refine e_ic (nI 1) dX6_count_123 (by decide) ?_
          refine e_kld hX dX6_count_124 (by omega) ?_
          exact e_retI dX6_count_125 rfl rfl (by rw [cnR, if_neg (by decide), if_pos (by decide)]) rfl
        · skip
          refine e_tabIn (off := 62) 126 dX6_count_64 (by decide) (by decide) (by decide) (by decide) ?_
          refine e_iload_n 2 dX6_count_126 rfl ?_
          exact e_retI dX6_count_127 rfl rfl (by rw [cnR, if_neg (by decide), if_neg (by decide), if_pos (by decide), nT_of hn hn2, ← show i = n by omega, ← hA]) rfl
        · skip
          refine e_tabIn (off := 64) 128 dX6_count_64 (by decide) (by decide) (by decide) (by decide) ?_
          refine e_iload_n 1 dX6_count_128 rfl ?_
          exact e_retI dX6_count_129 rfl rfl (by rw [cnR, if_neg (by decide), if_neg (by decide), if_neg (by decide), if_pos (by decide), nT_of hn hn2, ← show i = n by omega, ← hA]) rfl
        · skip
          refine e_tabIn (off := 66) 130 dX6_count_64 (by decide) (by decide) (by decide) (by decide) ?_
          refine e_aload_n 3 dX6_count_130 rfl ?_
          refine e_mk hX dX6_count_131 fl_X6_8 ?_
          refine e_ic (nI 3) dX6_count_134 (by decide) ?_
          refine e_kld hX dX6_count_135 (by omega) ?_
          exact e_retI dX6_count_136 rfl rfl (by rw [cnR, if_neg (by decide), if_neg (by decide), if_neg (by decide), if_neg (by decide), if_pos (by decide)]) rfl
        · skip
          refine e_tabIn (off := 73) 137 dX6_count_64 (by decide) (by decide) (by decide) (by decide) ?_
          refine e_aload_n 3 dX6_count_137 rfl ?_
          refine e_mk hX dX6_count_138 fl_X6_8 ?_
          refine e_ic (nI 2) dX6_count_141 (by decide) ?_
          refine e_kld hX dX6_count_142 (by omega) ?_
          exact e_retI dX6_count_143 rfl rfl (by rw [cnR, if_neg (by decide), if_neg (by decide), if_neg (by decide), if_neg (by decide), if_neg (by decide), if_pos (by decide)]) rfl
        · skip
          refine e_tabIn (off := 80) 144 dX6_count_64 (by decide) (by decide) (by decide) (by decide) ?_
          refine e_aload_n 3 dX6_count_144 rfl ?_
          refine e_mk hX dX6_count_145 fl_X6_8 ?_
          refine e_ic (nI 4) dX6_count_148 (by decide) ?_
          refine e_kld hX dX6_count_149 (by omega) ?_
          exact e_retI dX6_count_150 rfl rfl (by rw [cnR, if_neg (by decide), if_neg (by decide), if_neg (by decide), if_neg (by decide), if_neg (by decide), if_neg (by decide), if_pos (by decide)]) rfl
        · skip
          refine e_tabIn (off := 87) 151 dX6_count_64 (by decide) (by decide) (by decide) (by decide) ?_
          refine e_aload_n 3 dX6_count_151 rfl ?_
          refine e_mk hX dX6_count_152 fl_X6_8 ?_
          refine e_bipush (v := nI 6) dX6_count_155 (by decide) ?_
          refine e_kld hX dX6_count_157 (by omega) ?_
          exact e_retI dX6_count_158 rfl rfl (by rw [cnR, if_neg (by decide), if_neg (by decide), if_neg (by decide), if_neg (by decide), if_neg (by decide), if_neg (by decide), if_neg (by decide), if_pos (by decide)]) rfl
      · skip
        rw [Bool.not_eq_true] at hsw
        refine e_tabOut 159 dX6_count_64 (inI_out (a := 0) (b := 7) (by decide) (by decide) hsw) (by decide) ?_
        refine e_ic ((-1)) dX6_count_159 (by decide) ?_
        have g : ∀ k : Nat, k ≤ 7 → ¬ w = nI k := fun k hk e => by rw [e, inI_of (by omega) hk (by decide)] at hsw; cases hsw
        exact e_retI dX6_count_160 rfl rfl (by rw [cnR, if_neg (show ¬ w = 0 from g 0 (by decide)), if_neg (show ¬ w = 1 from g 1 (by decide)), if_neg (show ¬ w = 2 from g 2 (by decide)), if_neg (show ¬ w = 3 from g 3 (by decide)), if_neg (show ¬ w = 4 from g 4 (by decide)), if_neg (show ¬ w = 5 from g 5 (by decide)), if_neg (show ¬ w = 6 from g 6 (by decide)), if_neg (show ¬ w = 7 from g 7 (by decide))]) rfl
    | succ k ih =>
      intro i x y hi hA
      refine e_iload 0 dX6_count_7 rfl ?_
      refine e_aload_n 3 dX6_count_9 rfl ?_
      refine e_mk hX dX6_count_10 fl_X6_8 ?_
      refine e_ic (nI 1) dX6_count_13 (by decide) ?_
      refine e_kld hX dX6_count_14 (by omega) (e_iv (w := nI n) (hn) ?_)
      refine e_icmp_geN 63 dX6_count_15 (by decide) (by omega) (by omega) (fun h => absurd h (by omega)) (fun _ => ?_)
      refine e_iload_n 2 dX6_count_18 rfl ?_
      refine e_aload_n 3 dX6_count_19 rfl ?_
      refine e_iload 0 dX6_count_20 rfl ?_
      refine e_bipush (v := nI 6) dX6_count_22 (by decide) ?_
      refine e_callV (ci := 6) (st := [.int x]) (st1 := [.int (kg kf i 6), .int x]) (As := [.int (nI i), .int (nI 6)]) (m_get hX (kg_lt (by omega) (by omega))) dX6_count_24 (by decide) cm_X6_get lk_X6_36 im_X6_get rfl sel_X6_get hX.1 rfl rfl (Nat.le_of_ble_eq_true rfl) rfl ?_
      refine e_ic (nI 4) dX6_count_27 (by decide) ?_
      refine e_iv (w := 4) rfl ?_
      refine e_icmp_eq 35 dX6_count_28 (by decide) (fun h1 => ?_) (fun h1 => ?_)
      · skip
        refine e_ic (nI 0) dX6_count_35 (by decide) ?_
        refine e_iadd dX6_count_36 ?_
        refine e_istore_n (lv' := [(2, .int (x + (nI 0))), (4, .int (nI i)), (3, .int y), (0, .ref X.1), (1, .int w)]) dX6_count_37 (by decide) rfl ?_
        refine e_iload_n 2 dX6_count_38 rfl ?_
        refine e_aload_n 3 dX6_count_39 rfl ?_
        refine e_iload 1 dX6_count_40 rfl ?_
        refine e_bipush (v := nI 6) dX6_count_42 (by decide) ?_
        refine e_callV (ci := 6) (st := [.int y]) (st1 := [.int (kg kf i 6), .int y]) (As := [.int (nI i), .int (nI 6)]) (m_get hX (kg_lt (by omega) (by omega))) dX6_count_44 (by decide) cm_X6_get lk_X6_36 im_X6_get rfl sel_X6_get hX.1 rfl rfl (Nat.le_of_ble_eq_true rfl) rfl ?_
        refine e_if_ne 54 dX6_count_47 (by decide) (fun _ => ?_) (fun h => absurd h (by rw [h1]; decide))
        refine e_ic (nI 0) dX6_count_54 (by decide) ?_
        refine e_iadd dX6_count_55 ?_
        refine e_istore_n (lv' := [(3, .int (y + (nI 0))), (2, .int (x + (nI 0))), (4, .int (nI i)), (0, .ref X.1), (1, .int w)]) dX6_count_56 (by decide) rfl ?_
        refine e_iinc1N (lv' := [(4, .int (nI (i + 1))), (3, .int (y + (nI 0))), (2, .int (x + (nI 0))), (0, .ref X.1), (1, .int w)]) 2 dX6_count_57 rfl (by decide) rfl ?_
        refine e_goto 7 dX6_count_60 (by decide) ?_
        refine e_sub [0, 1, 2, 3, 4] rfl ?_
        exact ih (i + 1) (x + (nI 0)) (y + (nI 0)) (by omega) (by show _ = cnS kf i (lp (cnS kf) i (nI 0, nI 0)); rw [← hA, cnS]; simp [h1])
      · skip
        refine e_ic (nI 1) dX6_count_31 (by decide) ?_
        refine e_goto 36 dX6_count_32 (by decide) ?_
        refine e_iadd dX6_count_36 ?_
        refine e_istore_n (lv' := [(2, .int (x + (nI 1))), (4, .int (nI i)), (3, .int y), (0, .ref X.1), (1, .int w)]) dX6_count_37 (by decide) rfl ?_
        refine e_iload_n 2 dX6_count_38 rfl ?_
        refine e_aload_n 3 dX6_count_39 rfl ?_
        refine e_iload 1 dX6_count_40 rfl ?_
        refine e_bipush (v := nI 6) dX6_count_42 (by decide) ?_
        refine e_callV (ci := 6) (st := [.int y]) (st1 := [.int (kg kf i 6), .int y]) (As := [.int (nI i), .int (nI 6)]) (m_get hX (kg_lt (by omega) (by omega))) dX6_count_44 (by decide) cm_X6_get lk_X6_36 im_X6_get rfl sel_X6_get hX.1 rfl rfl (Nat.le_of_ble_eq_true rfl) rfl ?_
        refine e_if_ne 54 dX6_count_47 (by decide) (fun h2 => ?_) (fun h2 => ?_)
        · skip
          refine e_ic (nI 0) dX6_count_54 (by decide) ?_
          refine e_iadd dX6_count_55 ?_
          refine e_istore_n (lv' := [(3, .int (y + (nI 0))), (2, .int (x + (nI 1))), (4, .int (nI i)), (0, .ref X.1), (1, .int w)]) dX6_count_56 (by decide) rfl ?_
          refine e_iinc1N (lv' := [(4, .int (nI (i + 1))), (3, .int (y + (nI 0))), (2, .int (x + (nI 1))), (0, .ref X.1), (1, .int w)]) 2 dX6_count_57 rfl (by decide) rfl ?_
          refine e_goto 7 dX6_count_60 (by decide) ?_
          refine e_sub [0, 1, 2, 3, 4] rfl ?_
          exact ih (i + 1) (x + (nI 1)) (y + (nI 0)) (by omega) (by show _ = cnS kf i (lp (cnS kf) i (nI 0, nI 0)); rw [← hA, cnS]; simp [h1, h2])
        · skip
          refine e_ic (nI 1) dX6_count_50 (by decide) ?_
          refine e_goto 55 dX6_count_51 (by decide) ?_
          refine e_iadd dX6_count_55 ?_
          refine e_istore_n (lv' := [(3, .int (y + (nI 1))), (2, .int (x + (nI 1))), (4, .int (nI i)), (0, .ref X.1), (1, .int w)]) dX6_count_56 (by decide) rfl ?_
          refine e_iinc1N (lv' := [(4, .int (nI (i + 1))), (3, .int (y + (nI 1))), (2, .int (x + (nI 1))), (0, .ref X.1), (1, .int w)]) 2 dX6_count_57 rfl (by decide) rfl ?_
          refine e_goto 7 dX6_count_60 (by decide) ?_
          refine e_sub [0, 1, 2, 3, 4] rfl ?_
          exact ih (i + 1) (x + (nI 1)) (y + (nI 1)) (by omega) (by show _ = cnS kf i (lp (cnS kf) i (nI 0, nI 0)); rw [← hA, cnS]; simp [h1, h2])
  refine e_lvs (lv' := [(0, .ref X.1), (1, .int w)]) rfl ?_
  refine e_ic (nI 0) dX6_count_0 (by decide) ?_
  refine e_istore_n (lv' := [(2, .int (nI 0)), (0, .ref X.1), (1, .int w)]) dX6_count_1 (by decide) rfl ?_
  refine e_ic (nI 0) dX6_count_2 (by decide) ?_
  refine e_istore_n (lv' := [(3, .int (nI 0)), (2, .int (nI 0)), (0, .ref X.1), (1, .int w)]) dX6_count_3 (by decide) rfl ?_
  refine e_ic (nI 0) dX6_count_4 (by decide) ?_
  refine e_istore (lv' := [(4, .int (nI 0)), (3, .int (nI 0)), (2, .int (nI 0)), (0, .ref X.1), (1, .int w)]) dX6_count_5 (by decide) rfl ?_
  refine e_sub [0, 1, 2, 3, 4] rfl ?_
  exact L n 0 (nI 0) (nI 0) (by omega) rfl
theorem n0_l : (nI 0).toInt64 = lN 0 := by decide
theorem pr_ne {a : Int32} {y : Nat} (h : nI y < a) (hp : ∃ p, p ≤ 4 ∧ a = nI p) (hy : y ≤ 200) : ¬ (a - nI y).toInt64 = 0 := by
  obtain ⟨p, hp, rfl⟩ := hp
  have h1 := (nI_ltI (by omega) (by omega)).mp h
  rw [pk_sub (by omega), nI_l (by omega)]
  intro e
  have h2 := (lN_eq (a := p - y) (b := 0) (by omega) (by decide)).mp e
  omega
set_option maxRecDepth 100000 in
set_option maxHeartbeats 4000000 in
theorem m_bound (hX : MW m X) {n : Nat} (hn : kf 1 = nI n) (hn2 : n ≤ 200) (hC : CH kf n) (hp2 : ∃ p, p ≤ 4 ∧ kf 2 = nI p) {t : Int32} : Ev G 6 uX6_bound [.ref X.1, .int t] (MM m X (kf, vf, lf)) (some (.long (bdR kf vf t))) (MM m X (kf, vf, lf)) := by
  refine Ev.of (by decide +kernel) (Nat.le_of_ble_eq_true rfl) ?_
  refine e_lvs (lv' := [(0, .ref X.1), (1, .int t)]) rfl ?_
  refine e_aload_n 0 dX6_bound_0 rfl ?_
  refine e_iload_n 1 dX6_bound_1 rfl ?_
  refine e_callV (ci := 6) (st := []) (st1 := [.int (bI (tIn kf t))]) (As := [.int t]) (m_isTask hX) dX6_bound_2 (by decide) cm_X6_isTask lk_X6_158 im_X6_isTask rfl sel_X6_isTask hX.1 rfl rfl (Nat.le_of_ble_eq_true rfl) rfl ?_
  refine e_if_eqB 18 dX6_bound_5 (by decide) (fun h1 => ?_) (fun h1 => ?_)
  · skip
    refine e_ldc2 dX6_bound_18 cs_X6_176 ?_
    exact e_retL dX6_bound_21 rfl (by simp [bdR, h1]) rfl
  · skip
    obtain ⟨j, hj, rfl⟩ := tIn_n hn hn2 h1
    have cj : (nI j).toNatClampNeg = j := nI_clamp (by omega)
    refine e_aload_n 0 dX6_bound_8 rfl ?_
    refine e_iload_n 1 dX6_bound_9 rfl ?_
    refine e_bipush (v := nI 6) dX6_bound_10 (by decide) ?_
    refine e_callV (ci := 6) (st := []) (st1 := [.int (kg kf j 6)]) (As := [.int (nI j), .int (nI 6)]) (m_get hX (kg_lt (by omega) (by omega))) dX6_bound_12 (by decide) cm_X6_get lk_X6_36 im_X6_get rfl sel_X6_get hX.1 rfl rfl (Nat.le_of_ble_eq_true rfl) rfl ?_
    refine e_if_eq 22 dX6_bound_15 (by decide) (fun h2 => ?_) (fun h2 => ?_)
    · skip
      have hT := h1
      have hq : decide (kg kf j 6 = 0) = true := decide_eq_true h2
      have g1 : stnd kf vf j < 200 := stnd_lt (by omega) hn hn2
      have L : ∀ (k i y : Nat) (x : Int64), i + k = n → (y, x) = lp (bdS kf vf j (stnd kf vf j)) i (0, lN 0) → EvB G 6 uX6_bound (zz (MM m X (kf, vf, lf))) (nn (MM m X (kf, vf, lf))) (some (.long (bdR kf vf (nI j)))) (MM m X (kf, vf, lf)) 36 [(6, .int (nI i)), (4, .long x), (3, .int (nI y)), (2, .int (nI (stnd kf vf j))), (0, .ref X.1), (1, .int (nI j))] [] (MM m X (kf, vf, lf)) := by
        intro k
        induction k with
        | zero =>
          intro i y x hi hA
          have hy : y ≤ 200 := by have := bd_le (kf := kf) (vf := vf) (t := j) (s := stnd kf vf j) i; rw [← hA] at this; exact Nat.le_trans this (by omega)
          refine e_iload 0 dX6_bound_36 rfl ?_
          refine e_aload_n 4 dX6_bound_38 rfl ?_
          refine e_mk hX dX6_bound_39 fl_X6_8 ?_
          refine e_ic (nI 1) dX6_bound_42 (by decide) ?_
          refine e_kld hX dX6_bound_43 (by omega) (e_iv (w := nI n) (hn) ?_)
          refine e_icmp_geN 228 dX6_bound_44 (by decide) (by omega) (by omega) (fun _ => ?_) (fun h => absurd h (by omega))
          refine e_iload_n 2 dX6_bound_228 rfl ?_
          refine e_aload_n 4 dX6_bound_229 rfl ?_
          refine e_mk hX dX6_bound_230 fl_X6_8 ?_
          refine e_ic (nI 2) dX6_bound_233 (by decide) ?_
          refine e_kld hX dX6_bound_234 (by omega) ?_
          refine e_icmp_lt 244 dX6_bound_235 (by decide) (fun h1 => ?_) (fun h1 => ?_)
          · skip
            have h1' := Int32.not_le.mpr h1
            have hz1 : ¬ (kf 2 - nI y).toInt64 = 0 := pr_ne h1 hp2 (by omega)
            refine e_lload 1 dX6_bound_244 rfl ?_
            refine e_aload_n 4 dX6_bound_246 rfl ?_
            refine e_mk hX dX6_bound_247 fl_X6_8 ?_
            refine e_ic (nI 2) dX6_bound_250 (by decide) ?_
            refine e_kld hX dX6_bound_251 (by omega) ?_
            refine e_iload_n 2 dX6_bound_252 rfl ?_
            refine e_isub dX6_bound_253 ?_
            refine e_i2l dX6_bound_254 ?_
            refine e_ldiv dX6_bound_255 (hz1) ?_
            refine e_lconst (v := lN 1) dX6_bound_256 (by decide) ?_
            refine e_ladd dX6_bound_257 ?_
            exact e_retL dX6_bound_258 rfl (by unfold bdR; rw [cj, hT, hq, show bdF kf vf j = (y, x) by rw [bdF, nT_of hn hn2, ← show i = n by omega, ← hA]]; simp [h1, h1']) rfl
          · skip
            have h1' := Int32.not_lt.mp h1
            refine e_ldc2 dX6_bound_238 cs_X6_176 ?_
            refine e_goto 258 dX6_bound_241 (by decide) ?_
            exact e_retL dX6_bound_258 rfl (by unfold bdR; rw [cj, hT, hq, show bdF kf vf j = (y, x) by rw [bdF, nT_of hn hn2, ← show i = n by omega, ← hA]]; simp [h1, h1']) rfl
        | succ k ih =>
          intro i y x hi hA
          have hy : y ≤ 200 := by have := bd_le (kf := kf) (vf := vf) (t := j) (s := stnd kf vf j) i; rw [← hA] at this; exact Nat.le_trans this (by omega)
          refine e_iload 0 dX6_bound_36 rfl ?_
          refine e_aload_n 4 dX6_bound_38 rfl ?_
          refine e_mk hX dX6_bound_39 fl_X6_8 ?_
          refine e_ic (nI 1) dX6_bound_42 (by decide) ?_
          refine e_kld hX dX6_bound_43 (by omega) (e_iv (w := nI n) (hn) ?_)
          refine e_icmp_geN 228 dX6_bound_44 (by decide) (by omega) (by omega) (fun h => absurd h (by omega)) (fun _ => ?_)
          refine e_aload_n 4 dX6_bound_47 rfl ?_
          refine e_iload 0 dX6_bound_48 rfl ?_
          refine e_bipush (v := nI 6) dX6_bound_50 (by decide) ?_
          refine e_callV (ci := 6) (st := []) (st1 := [.int (kg kf i 6)]) (As := [.int (nI i), .int (nI 6)]) (m_get hX (kg_lt (by omega) (by omega))) dX6_bound_52 (by decide) cm_X6_get lk_X6_36 im_X6_get rfl sel_X6_get hX.1 rfl rfl (Nat.le_of_ble_eq_true rfl) rfl ?_
          refine e_if_ne 222 dX6_bound_55 (by decide) (fun h1 => ?_) (fun h1 => ?_)
          · skip
            refine e_iinc1N (lv' := [(6, .int (nI (i + 1))), (4, .long x), (3, .int (nI y)), (2, .int (nI (stnd kf vf j))), (0, .ref X.1), (1, .int (nI j))]) 0 dX6_bound_222 rfl (by decide) rfl ?_
            refine e_goto 36 dX6_bound_225 (by decide) ?_
            refine e_sub [0, 1, 2, 3, 4, 5] rfl ?_
            exact ih (i + 1) y x (by omega) (by show _ = bdS kf vf j (stnd kf vf j) i (lp (bdS kf vf j (stnd kf vf j)) i (0, lN 0)); rw [← hA, bdS]; rw [if_neg (fun z => h1 z.1)])
          · skip
            refine e_iload 0 dX6_bound_58 rfl ?_
            refine e_iload_n 5 dX6_bound_60 rfl ?_
            refine e_icmp_neN 67 dX6_bound_61 (by decide) (by omega) (by omega) (fun h2 => ?_) (fun h2 => ?_)
            · skip
              have g2 : stnd kf vf i < 200 := stnd_lt (by omega) hn hn2
              refine e_aload_n 4 dX6_bound_67 rfl ?_
              refine e_iload 0 dX6_bound_68 rfl ?_
              refine e_callV (ci := 6) (st := []) (st1 := [.int (nI (stnd kf vf i))]) (As := [.int (nI i)]) (m_standingOf hX (by omega) hn hn2 hC) dX6_bound_70 (by decide) cm_X6_standingOf lk_X6_67 im_X6_standingOf rfl sel_X6_standingOf hX.1 rfl rfl (Nat.le_of_ble_eq_true rfl) rfl ?_
              refine e_istore (lv' := [(7, .int (nI (stnd kf vf i))), (6, .int (nI i)), (4, .long x), (3, .int (nI y)), (2, .int (nI (stnd kf vf j))), (0, .ref X.1), (1, .int (nI j))]) dX6_bound_73 (by decide) rfl ?_
              refine e_aload_n 5 dX6_bound_75 rfl ?_
              refine e_iload 0 dX6_bound_76 rfl ?_
              refine e_iload_n 4 dX6_bound_78 rfl ?_
              refine e_callV (ci := 6) (st := []) (st1 := [.int (bI (ahead kf vf (stnd kf vf i) (stnd kf vf j)))]) (As := [.int (nI (stnd kf vf i)), .int (nI (stnd kf vf j))]) (m_isAhead hX (by omega) (by omega)) dX6_bound_79 (by decide) cm_X6_isAhead lk_X6_55 im_X6_isAhead rfl sel_X6_isAhead hX.1 rfl rfl (Nat.le_of_ble_eq_true rfl) rfl ?_
              refine e_if_neB 88 dX6_bound_82 (by decide) (fun h3 => ?_) (fun h3 => ?_)
              · skip
                refine e_iload 0 dX6_bound_88 rfl ?_
                refine e_iload 1 dX6_bound_90 rfl ?_
                refine e_icmp_eqN 101 dX6_bound_92 (by decide) (by omega) (by omega) (fun h4 => ?_) (fun h4 => ?_)
                · skip
                  refine e_aload_n 5 dX6_bound_101 rfl ?_
                  refine e_iload 1 dX6_bound_102 rfl ?_
                  refine e_callV (ci := 6) (st := []) (st1 := [.int (bI (isDue kf i))]) (As := [.int (nI i)]) (m_isDue hX (by omega)) dX6_bound_104 (by decide) cm_X6_isDue lk_X6_43 im_X6_isDue rfl sel_X6_isDue hX.1 rfl rfl (Nat.le_of_ble_eq_true rfl) rfl ?_
                  refine e_if_eqB 121 dX6_bound_107 (by decide) (fun h5 => ?_) (fun h5 => ?_)
                  · skip
                    refine e_ic (nI 0) dX6_bound_121 (by decide) ?_
                    refine e_istore (lv' := [(8, .int (nI 0)), (7, .int (nI (stnd kf vf i))), (6, .int (nI i)), (4, .long x), (3, .int (nI y)), (2, .int (nI (stnd kf vf j))), (0, .ref X.1), (1, .int (nI j))]) dX6_bound_122 (by decide) rfl ?_
                    refine e_aload_n 6 dX6_bound_124 rfl ?_
                    refine e_iload_n 5 dX6_bound_125 rfl ?_
                    refine e_callV (ci := 6) (st := []) (st1 := [.int (cls kf (stnd kf vf j))]) (As := [.int (nI (stnd kf vf j))]) (m_classOf hX (by omega)) dX6_bound_126 (by decide) cm_X6_classOf lk_X6_47 im_X6_classOf rfl sel_X6_classOf hX.1 rfl rfl (Nat.le_of_ble_eq_true rfl) rfl ?_
                    refine e_if_ne 143 dX6_bound_129 (by decide) (fun h6 => ?_) (fun h6 => ?_)
                    · skip
                      refine e_aload_n 6 dX6_bound_143 rfl ?_
                      refine e_iload 2 dX6_bound_144 rfl ?_
                      refine e_aload_n 6 dX6_bound_146 rfl ?_
                      refine e_iload_n 5 dX6_bound_147 rfl ?_
                      refine e_callV (ci := 6) (st := [.int (nI i), .ref X.1]) (st1 := [.long (key kf vf (stnd kf vf j)), .int (nI i), .ref X.1]) (As := [.int (nI (stnd kf vf j))]) (m_keyOf hX (by omega)) dX6_bound_148 (by decide) cm_X6_keyOf lk_X6_51 im_X6_keyOf rfl sel_X6_keyOf hX.1 rfl rfl (Nat.le_of_ble_eq_true rfl) rfl ?_
                      refine e_iload_n 5 dX6_bound_151 rfl ?_
                      refine e_callV (ci := 6) (st := []) (st1 := [.long (pmF kf vf i (key kf vf (stnd kf vf j)) (stnd kf vf j))]) (As := [.int (nI i), .long (key kf vf (stnd kf vf j)), .int (nI (stnd kf vf j))]) (m_payments hX (by omega) (by omega)) dX6_bound_152 (by decide) cm_X6_payments lk_X6_185 im_X6_payments rfl sel_X6_payments hX.1 rfl rfl (Nat.le_of_ble_eq_true rfl) rfl ?_
                      refine e_lstore (lv' := [(9, .long (pmF kf vf i (key kf vf (stnd kf vf j)) (stnd kf vf j))), (8, .int (nI 0)), (7, .int (nI (stnd kf vf i))), (6, .int (nI i)), (4, .long x), (3, .int (nI y)), (2, .int (nI (stnd kf vf j))), (0, .ref X.1), (1, .int (nI j))]) dX6_bound_155 (by decide) rfl ?_
                      refine e_aload_n 7 dX6_bound_157 rfl ?_
                      refine e_iload 3 dX6_bound_158 rfl ?_
                      refine e_ic (nI 0) dX6_bound_160 (by decide) ?_
                      refine e_callV (ci := 6) (st := []) (st1 := [.int (kg kf i 0)]) (As := [.int (nI i), .int (nI 0)]) (m_get hX (kg_lt (by omega) (by omega))) dX6_bound_161 (by decide) cm_X6_get lk_X6_36 im_X6_get rfl sel_X6_get hX.1 rfl rfl (Nat.le_of_ble_eq_true rfl) rfl ?_
                      refine e_istore (lv' := [(11, .int (kg kf i 0)), (9, .long (pmF kf vf i (key kf vf (stnd kf vf j)) (stnd kf vf j))), (8, .int (nI 0)), (7, .int (nI (stnd kf vf i))), (6, .int (nI i)), (4, .long x), (3, .int (nI y)), (2, .int (nI (stnd kf vf j))), (0, .ref X.1), (1, .int (nI j))]) dX6_bound_164 (by decide) rfl ?_
                      refine e_lload 5 dX6_bound_166 rfl ?_
                      refine e_iload 0 dX6_bound_168 rfl ?_
                      refine e_ic (nI 1) dX6_bound_170 (by decide) ?_
                      refine e_iv (w := 1) rfl ?_
                      refine e_icmp_ne 183 dX6_bound_171 (by decide) (fun h7 => ?_) (fun h7 => ?_)
                      · skip
                        refine e_iload 0 dX6_bound_183 rfl ?_
                        refine e_ic (nI 2) dX6_bound_185 (by decide) ?_
                        refine e_iv (w := 2) rfl ?_
                        refine e_icmp_ne 200 dX6_bound_186 (by decide) (fun h8 => ?_) (fun h8 => ?_)
                        · skip
                          refine e_iload 0 dX6_bound_200 rfl ?_
                          refine e_ic (nI 4) dX6_bound_202 (by decide) ?_
                          refine e_iv (w := 4) rfl ?_
                          refine e_icmp_ne 217 dX6_bound_203 (by decide) (fun h9 => ?_) (fun h9 => ?_)
                          · skip
                            refine e_lload 1 dX6_bound_217 rfl ?_
                            refine e_ladd dX6_bound_219 ?_
                            refine e_lstore (lv' := [(4, .long (x + (pmF kf vf i (key kf vf (stnd kf vf j)) (stnd kf vf j)))), (11, .int (kg kf i 0)), (9, .long (pmF kf vf i (key kf vf (stnd kf vf j)) (stnd kf vf j))), (8, .int (nI 0)), (7, .int (nI (stnd kf vf i))), (6, .int (nI i)), (3, .int (nI y)), (2, .int (nI (stnd kf vf j))), (0, .ref X.1), (1, .int (nI j))]) dX6_bound_220 (by decide) rfl ?_
                            refine e_iinc1N (lv' := [(6, .int (nI (i + 1))), (4, .long (x + (pmF kf vf i (key kf vf (stnd kf vf j)) (stnd kf vf j)))), (11, .int (kg kf i 0)), (9, .long (pmF kf vf i (key kf vf (stnd kf vf j)) (stnd kf vf j))), (8, .int (nI 0)), (7, .int (nI (stnd kf vf i))), (3, .int (nI y)), (2, .int (nI (stnd kf vf j))), (0, .ref X.1), (1, .int (nI j))]) 5 dX6_bound_222 rfl (by decide) rfl ?_
                            refine e_goto 36 dX6_bound_225 (by decide) ?_
                            refine e_sub [0, 1, 6, 7, 8, 9] rfl ?_
                            exact ih (i + 1) y (x + (pmF kf vf i (key kf vf (stnd kf vf j)) (stnd kf vf j))) (by omega) (by show _ = bdS kf vf j (stnd kf vf j) i (lp (bdS kf vf j (stnd kf vf j)) i (0, lN 0)); rw [← hA, bdS]; rw [if_pos ⟨h1, h2, h3⟩, if_pos h4]; simp [h5, h6, h7, h8, h9, n0_l])
                          · skip
                            refine e_lload 1 dX6_bound_206 rfl ?_
                            refine e_lconst (v := lN 1) dX6_bound_208 (by decide) ?_
                            refine e_ladd dX6_bound_209 ?_
                            refine e_ldc2 dX6_bound_210 cs_X6_178 ?_
                            refine e_lv (w := lN 2) (by decide) ?_
                            refine e_ldiv dX6_bound_213 (by decide) ?_
                            refine e_goto 219 dX6_bound_214 (by decide) ?_
                            refine e_ladd dX6_bound_219 ?_
                            refine e_lstore (lv' := [(4, .long (x + (((pmF kf vf i (key kf vf (stnd kf vf j)) (stnd kf vf j)) + (lN 1)) / (lN 2)))), (11, .int (kg kf i 0)), (9, .long (pmF kf vf i (key kf vf (stnd kf vf j)) (stnd kf vf j))), (8, .int (nI 0)), (7, .int (nI (stnd kf vf i))), (6, .int (nI i)), (3, .int (nI y)), (2, .int (nI (stnd kf vf j))), (0, .ref X.1), (1, .int (nI j))]) dX6_bound_220 (by decide) rfl ?_
                            refine e_iinc1N (lv' := [(6, .int (nI (i + 1))), (4, .long (x + (((pmF kf vf i (key kf vf (stnd kf vf j)) (stnd kf vf j)) + (lN 1)) / (lN 2)))), (11, .int (kg kf i 0)), (9, .long (pmF kf vf i (key kf vf (stnd kf vf j)) (stnd kf vf j))), (8, .int (nI 0)), (7, .int (nI (stnd kf vf i))), (3, .int (nI y)), (2, .int (nI (stnd kf vf j))), (0, .ref X.1), (1, .int (nI j))]) 5 dX6_bound_222 rfl (by decide) rfl ?_
                            refine e_goto 36 dX6_bound_225 (by decide) ?_
                            refine e_sub [0, 1, 6, 7, 8, 9] rfl ?_
                            exact ih (i + 1) y (x + (((pmF kf vf i (key kf vf (stnd kf vf j)) (stnd kf vf j)) + (lN 1)) / (lN 2))) (by omega) (by show _ = bdS kf vf j (stnd kf vf j) i (lp (bdS kf vf j (stnd kf vf j)) i (0, lN 0)); rw [← hA, bdS]; rw [if_pos ⟨h1, h2, h3⟩, if_pos h4]; simp [h5, h6, h7, h8, h9, n0_l])
                        · skip
                          refine e_iload 2 dX6_bound_189 rfl ?_
                          refine e_i2lN dX6_bound_191 (by omega) ?_
                          refine e_lload 1 dX6_bound_192 rfl ?_
                          refine e_jmaxL dX6_bound_194 lkm_X6_189 (Nat.le_of_ble_eq_true rfl) ?_
                          refine e_goto 219 dX6_bound_197 (by decide) ?_
                          refine e_ladd dX6_bound_219 ?_
                          refine e_lstore (lv' := [(4, .long (x + (mxL (lN 0) (pmF kf vf i (key kf vf (stnd kf vf j)) (stnd kf vf j))))), (11, .int (kg kf i 0)), (9, .long (pmF kf vf i (key kf vf (stnd kf vf j)) (stnd kf vf j))), (8, .int (nI 0)), (7, .int (nI (stnd kf vf i))), (6, .int (nI i)), (3, .int (nI y)), (2, .int (nI (stnd kf vf j))), (0, .ref X.1), (1, .int (nI j))]) dX6_bound_220 (by decide) rfl ?_
                          refine e_iinc1N (lv' := [(6, .int (nI (i + 1))), (4, .long (x + (mxL (lN 0) (pmF kf vf i (key kf vf (stnd kf vf j)) (stnd kf vf j))))), (11, .int (kg kf i 0)), (9, .long (pmF kf vf i (key kf vf (stnd kf vf j)) (stnd kf vf j))), (8, .int (nI 0)), (7, .int (nI (stnd kf vf i))), (3, .int (nI y)), (2, .int (nI (stnd kf vf j))), (0, .ref X.1), (1, .int (nI j))]) 5 dX6_bound_222 rfl (by decide) rfl ?_
                          refine e_goto 36 dX6_bound_225 (by decide) ?_
                          refine e_sub [0, 1, 6, 7, 8, 9] rfl ?_
                          exact ih (i + 1) y (x + (mxL (lN 0) (pmF kf vf i (key kf vf (stnd kf vf j)) (stnd kf vf j)))) (by omega) (by show _ = bdS kf vf j (stnd kf vf j) i (lp (bdS kf vf j (stnd kf vf j)) i (0, lN 0)); rw [← hA, bdS]; rw [if_pos ⟨h1, h2, h3⟩, if_pos h4]; simp [h5, h6, h7, h8, n0_l])
                      · skip
                        refine e_iload 2 dX6_bound_174 rfl ?_
                        refine e_i2lN dX6_bound_176 (by omega) ?_
                        refine e_lload 1 dX6_bound_177 rfl ?_
                        refine e_ladd dX6_bound_179 ?_
                        refine e_goto 219 dX6_bound_180 (by decide) ?_
                        refine e_ladd dX6_bound_219 ?_
                        refine e_lstore (lv' := [(4, .long (x + ((lN 0) + (pmF kf vf i (key kf vf (stnd kf vf j)) (stnd kf vf j))))), (11, .int (kg kf i 0)), (9, .long (pmF kf vf i (key kf vf (stnd kf vf j)) (stnd kf vf j))), (8, .int (nI 0)), (7, .int (nI (stnd kf vf i))), (6, .int (nI i)), (3, .int (nI y)), (2, .int (nI (stnd kf vf j))), (0, .ref X.1), (1, .int (nI j))]) dX6_bound_220 (by decide) rfl ?_
                        refine e_iinc1N (lv' := [(6, .int (nI (i + 1))), (4, .long (x + ((lN 0) + (pmF kf vf i (key kf vf (stnd kf vf j)) (stnd kf vf j))))), (11, .int (kg kf i 0)), (9, .long (pmF kf vf i (key kf vf (stnd kf vf j)) (stnd kf vf j))), (8, .int (nI 0)), (7, .int (nI (stnd kf vf i))), (3, .int (nI y)), (2, .int (nI (stnd kf vf j))), (0, .ref X.1), (1, .int (nI j))]) 5 dX6_bound_222 rfl (by decide) rfl ?_
                        refine e_goto 36 dX6_bound_225 (by decide) ?_
                        refine e_sub [0, 1, 6, 7, 8, 9] rfl ?_
                        exact ih (i + 1) y (x + ((lN 0) + (pmF kf vf i (key kf vf (stnd kf vf j)) (stnd kf vf j)))) (by omega) (by show _ = bdS kf vf j (stnd kf vf j) i (lp (bdS kf vf j (stnd kf vf j)) i (0, lN 0)); rw [← hA, bdS]; rw [if_pos ⟨h1, h2, h3⟩, if_pos h4]; simp [h5, h6, h7, n0_l])
                    · skip
                      refine e_lload 3 dX6_bound_132 rfl ?_
                      refine e_iload 0 dX6_bound_134 rfl ?_
                      refine e_i2lN dX6_bound_136 (by omega) ?_
                      refine e_ladd dX6_bound_137 ?_
                      refine e_lstore (lv' := [(4, .long (x + (lN 0))), (8, .int (nI 0)), (7, .int (nI (stnd kf vf i))), (6, .int (nI i)), (3, .int (nI y)), (2, .int (nI (stnd kf vf j))), (0, .ref X.1), (1, .int (nI j))]) dX6_bound_138 (by decide) rfl ?_
                      refine e_goto 222 dX6_bound_140 (by decide) ?_
                      refine e_iinc1N (lv' := [(6, .int (nI (i + 1))), (4, .long (x + (lN 0))), (8, .int (nI 0)), (7, .int (nI (stnd kf vf i))), (3, .int (nI y)), (2, .int (nI (stnd kf vf j))), (0, .ref X.1), (1, .int (nI j))]) 3 dX6_bound_222 rfl (by decide) rfl ?_
                      refine e_goto 36 dX6_bound_225 (by decide) ?_
                      refine e_sub [0, 1, 4, 5, 6, 7] rfl ?_
                      exact ih (i + 1) y (x + (lN 0)) (by omega) (by show _ = bdS kf vf j (stnd kf vf j) i (lp (bdS kf vf j (stnd kf vf j)) i (0, lN 0)); rw [← hA, bdS]; rw [if_pos ⟨h1, h2, h3⟩, if_pos h4]; simp [h5, h6, n0_l])
                  · skip
                    refine e_aload_n 5 dX6_bound_110 rfl ?_
                    refine e_iload 1 dX6_bound_111 rfl ?_
                    refine e_bipush (v := nI 13) dX6_bound_113 (by decide) ?_
                    refine e_callV (ci := 6) (st := []) (st1 := [.int (kg kf i 13)]) (As := [.int (nI i), .int (nI 13)]) (m_get hX (kg_lt (by omega) (by omega))) dX6_bound_115 (by decide) cm_X6_get lk_X6_36 im_X6_get rfl sel_X6_get hX.1 rfl rfl (Nat.le_of_ble_eq_true rfl) rfl ?_
                    refine e_goto 122 dX6_bound_118 (by decide) ?_
                    refine e_istore (lv' := [(8, .int (kg kf i 13)), (7, .int (nI (stnd kf vf i))), (6, .int (nI i)), (4, .long x), (3, .int (nI y)), (2, .int (nI (stnd kf vf j))), (0, .ref X.1), (1, .int (nI j))]) dX6_bound_122 (by decide) rfl ?_
                    refine e_aload_n 6 dX6_bound_124 rfl ?_
                    refine e_iload_n 5 dX6_bound_125 rfl ?_
                    refine e_callV (ci := 6) (st := []) (st1 := [.int (cls kf (stnd kf vf j))]) (As := [.int (nI (stnd kf vf j))]) (m_classOf hX (by omega)) dX6_bound_126 (by decide) cm_X6_classOf lk_X6_47 im_X6_classOf rfl sel_X6_classOf hX.1 rfl rfl (Nat.le_of_ble_eq_true rfl) rfl ?_
                    refine e_if_ne 143 dX6_bound_129 (by decide) (fun h6 => ?_) (fun h6 => ?_)
                    · skip
                      refine e_aload_n 6 dX6_bound_143 rfl ?_
                      refine e_iload 2 dX6_bound_144 rfl ?_
                      refine e_aload_n 6 dX6_bound_146 rfl ?_
                      refine e_iload_n 5 dX6_bound_147 rfl ?_
                      refine e_callV (ci := 6) (st := [.int (nI i), .ref X.1]) (st1 := [.long (key kf vf (stnd kf vf j)), .int (nI i), .ref X.1]) (As := [.int (nI (stnd kf vf j))]) (m_keyOf hX (by omega)) dX6_bound_148 (by decide) cm_X6_keyOf lk_X6_51 im_X6_keyOf rfl sel_X6_keyOf hX.1 rfl rfl (Nat.le_of_ble_eq_true rfl) rfl ?_
                      refine e_iload_n 5 dX6_bound_151 rfl ?_
                      refine e_callV (ci := 6) (st := []) (st1 := [.long (pmF kf vf i (key kf vf (stnd kf vf j)) (stnd kf vf j))]) (As := [.int (nI i), .long (key kf vf (stnd kf vf j)), .int (nI (stnd kf vf j))]) (m_payments hX (by omega) (by omega)) dX6_bound_152 (by decide) cm_X6_payments lk_X6_185 im_X6_payments rfl sel_X6_payments hX.1 rfl rfl (Nat.le_of_ble_eq_true rfl) rfl ?_
                      refine e_lstore (lv' := [(9, .long (pmF kf vf i (key kf vf (stnd kf vf j)) (stnd kf vf j))), (8, .int (kg kf i 13)), (7, .int (nI (stnd kf vf i))), (6, .int (nI i)), (4, .long x), (3, .int (nI y)), (2, .int (nI (stnd kf vf j))), (0, .ref X.1), (1, .int (nI j))]) dX6_bound_155 (by decide) rfl ?_
                      refine e_aload_n 7 dX6_bound_157 rfl ?_
                      refine e_iload 3 dX6_bound_158 rfl ?_
                      refine e_ic (nI 0) dX6_bound_160 (by decide) ?_
                      refine e_callV (ci := 6) (st := []) (st1 := [.int (kg kf i 0)]) (As := [.int (nI i), .int (nI 0)]) (m_get hX (kg_lt (by omega) (by omega))) dX6_bound_161 (by decide) cm_X6_get lk_X6_36 im_X6_get rfl sel_X6_get hX.1 rfl rfl (Nat.le_of_ble_eq_true rfl) rfl ?_
                      refine e_istore (lv' := [(11, .int (kg kf i 0)), (9, .long (pmF kf vf i (key kf vf (stnd kf vf j)) (stnd kf vf j))), (8, .int (kg kf i 13)), (7, .int (nI (stnd kf vf i))), (6, .int (nI i)), (4, .long x), (3, .int (nI y)), (2, .int (nI (stnd kf vf j))), (0, .ref X.1), (1, .int (nI j))]) dX6_bound_164 (by decide) rfl ?_
                      refine e_lload 5 dX6_bound_166 rfl ?_
                      refine e_iload 0 dX6_bound_168 rfl ?_
                      refine e_ic (nI 1) dX6_bound_170 (by decide) ?_
                      refine e_iv (w := 1) rfl ?_
                      refine e_icmp_ne 183 dX6_bound_171 (by decide) (fun h7 => ?_) (fun h7 => ?_)
                      · skip
                        refine e_iload 0 dX6_bound_183 rfl ?_
                        refine e_ic (nI 2) dX6_bound_185 (by decide) ?_
                        refine e_iv (w := 2) rfl ?_
                        refine e_icmp_ne 200 dX6_bound_186 (by decide) (fun h8 => ?_) (fun h8 => ?_)
                        · skip
                          refine e_iload 0 dX6_bound_200 rfl ?_
                          refine e_ic (nI 4) dX6_bound_202 (by decide) ?_
                          refine e_iv (w := 4) rfl ?_
                          refine e_icmp_ne 217 dX6_bound_203 (by decide) (fun h9 => ?_) (fun h9 => ?_)
                          · skip
                            refine e_lload 1 dX6_bound_217 rfl ?_
                            refine e_ladd dX6_bound_219 ?_
                            refine e_lstore (lv' := [(4, .long (x + (pmF kf vf i (key kf vf (stnd kf vf j)) (stnd kf vf j)))), (11, .int (kg kf i 0)), (9, .long (pmF kf vf i (key kf vf (stnd kf vf j)) (stnd kf vf j))), (8, .int (kg kf i 13)), (7, .int (nI (stnd kf vf i))), (6, .int (nI i)), (3, .int (nI y)), (2, .int (nI (stnd kf vf j))), (0, .ref X.1), (1, .int (nI j))]) dX6_bound_220 (by decide) rfl ?_
                            refine e_iinc1N (lv' := [(6, .int (nI (i + 1))), (4, .long (x + (pmF kf vf i (key kf vf (stnd kf vf j)) (stnd kf vf j)))), (11, .int (kg kf i 0)), (9, .long (pmF kf vf i (key kf vf (stnd kf vf j)) (stnd kf vf j))), (8, .int (kg kf i 13)), (7, .int (nI (stnd kf vf i))), (3, .int (nI y)), (2, .int (nI (stnd kf vf j))), (0, .ref X.1), (1, .int (nI j))]) 5 dX6_bound_222 rfl (by decide) rfl ?_
                            refine e_goto 36 dX6_bound_225 (by decide) ?_
                            refine e_sub [0, 1, 6, 7, 8, 9] rfl ?_
                            exact ih (i + 1) y (x + (pmF kf vf i (key kf vf (stnd kf vf j)) (stnd kf vf j))) (by omega) (by show _ = bdS kf vf j (stnd kf vf j) i (lp (bdS kf vf j (stnd kf vf j)) i (0, lN 0)); rw [← hA, bdS]; rw [if_pos ⟨h1, h2, h3⟩, if_pos h4]; simp [h5, h6, h7, h8, h9, n0_l])
                          · skip
                            refine e_lload 1 dX6_bound_206 rfl ?_
                            refine e_lconst (v := lN 1) dX6_bound_208 (by decide) ?_
                            refine e_ladd dX6_bound_209 ?_
                            refine e_ldc2 dX6_bound_210 cs_X6_178 ?_
                            refine e_lv (w := lN 2) (by decide) ?_
                            refine e_ldiv dX6_bound_213 (by decide) ?_
                            refine e_goto 219 dX6_bound_214 (by decide) ?_
                            refine e_ladd dX6_bound_219 ?_
                            refine e_lstore (lv' := [(4, .long (x + (((pmF kf vf i (key kf vf (stnd kf vf j)) (stnd kf vf j)) + (lN 1)) / (lN 2)))), (11, .int (kg kf i 0)), (9, .long (pmF kf vf i (key kf vf (stnd kf vf j)) (stnd kf vf j))), (8, .int (kg kf i 13)), (7, .int (nI (stnd kf vf i))), (6, .int (nI i)), (3, .int (nI y)), (2, .int (nI (stnd kf vf j))), (0, .ref X.1), (1, .int (nI j))]) dX6_bound_220 (by decide) rfl ?_
                            refine e_iinc1N (lv' := [(6, .int (nI (i + 1))), (4, .long (x + (((pmF kf vf i (key kf vf (stnd kf vf j)) (stnd kf vf j)) + (lN 1)) / (lN 2)))), (11, .int (kg kf i 0)), (9, .long (pmF kf vf i (key kf vf (stnd kf vf j)) (stnd kf vf j))), (8, .int (kg kf i 13)), (7, .int (nI (stnd kf vf i))), (3, .int (nI y)), (2, .int (nI (stnd kf vf j))), (0, .ref X.1), (1, .int (nI j))]) 5 dX6_bound_222 rfl (by decide) rfl ?_
                            refine e_goto 36 dX6_bound_225 (by decide) ?_
                            refine e_sub [0, 1, 6, 7, 8, 9] rfl ?_
                            exact ih (i + 1) y (x + (((pmF kf vf i (key kf vf (stnd kf vf j)) (stnd kf vf j)) + (lN 1)) / (lN 2))) (by omega) (by show _ = bdS kf vf j (stnd kf vf j) i (lp (bdS kf vf j (stnd kf vf j)) i (0, lN 0)); rw [← hA, bdS]; rw [if_pos ⟨h1, h2, h3⟩, if_pos h4]; simp [h5, h6, h7, h8, h9, n0_l])
                        · skip
                          refine e_iload 2 dX6_bound_189 rfl ?_
                          refine e_i2l dX6_bound_191 ?_
                          refine e_lload 1 dX6_bound_192 rfl ?_
                          refine e_jmaxL dX6_bound_194 lkm_X6_189 (Nat.le_of_ble_eq_true rfl) ?_
                          refine e_goto 219 dX6_bound_197 (by decide) ?_
                          refine e_ladd dX6_bound_219 ?_
                          refine e_lstore (lv' := [(4, .long (x + (mxL ((kg kf i 13).toInt64) (pmF kf vf i (key kf vf (stnd kf vf j)) (stnd kf vf j))))), (11, .int (kg kf i 0)), (9, .long (pmF kf vf i (key kf vf (stnd kf vf j)) (stnd kf vf j))), (8, .int (kg kf i 13)), (7, .int (nI (stnd kf vf i))), (6, .int (nI i)), (3, .int (nI y)), (2, .int (nI (stnd kf vf j))), (0, .ref X.1), (1, .int (nI j))]) dX6_bound_220 (by decide) rfl ?_
                          refine e_iinc1N (lv' := [(6, .int (nI (i + 1))), (4, .long (x + (mxL ((kg kf i 13).toInt64) (pmF kf vf i (key kf vf (stnd kf vf j)) (stnd kf vf j))))), (11, .int (kg kf i 0)), (9, .long (pmF kf vf i (key kf vf (stnd kf vf j)) (stnd kf vf j))), (8, .int (kg kf i 13)), (7, .int (nI (stnd kf vf i))), (3, .int (nI y)), (2, .int (nI (stnd kf vf j))), (0, .ref X.1), (1, .int (nI j))]) 5 dX6_bound_222 rfl (by decide) rfl ?_
                          refine e_goto 36 dX6_bound_225 (by decide) ?_
                          refine e_sub [0, 1, 6, 7, 8, 9] rfl ?_
                          exact ih (i + 1) y (x + (mxL ((kg kf i 13).toInt64) (pmF kf vf i (key kf vf (stnd kf vf j)) (stnd kf vf j)))) (by omega) (by show _ = bdS kf vf j (stnd kf vf j) i (lp (bdS kf vf j (stnd kf vf j)) i (0, lN 0)); rw [← hA, bdS]; rw [if_pos ⟨h1, h2, h3⟩, if_pos h4]; simp [h5, h6, h7, h8, n0_l])
                      · skip
                        refine e_iload 2 dX6_bound_174 rfl ?_
                        refine e_i2l dX6_bound_176 ?_
                        refine e_lload 1 dX6_bound_177 rfl ?_
                        refine e_ladd dX6_bound_179 ?_
                        refine e_goto 219 dX6_bound_180 (by decide) ?_
                        refine e_ladd dX6_bound_219 ?_
                        refine e_lstore (lv' := [(4, .long (x + (((kg kf i 13).toInt64) + (pmF kf vf i (key kf vf (stnd kf vf j)) (stnd kf vf j))))), (11, .int (kg kf i 0)), (9, .long (pmF kf vf i (key kf vf (stnd kf vf j)) (stnd kf vf j))), (8, .int (kg kf i 13)), (7, .int (nI (stnd kf vf i))), (6, .int (nI i)), (3, .int (nI y)), (2, .int (nI (stnd kf vf j))), (0, .ref X.1), (1, .int (nI j))]) dX6_bound_220 (by decide) rfl ?_
                        refine e_iinc1N (lv' := [(6, .int (nI (i + 1))), (4, .long (x + (((kg kf i 13).toInt64) + (pmF kf vf i (key kf vf (stnd kf vf j)) (stnd kf vf j))))), (11, .int (kg kf i 0)), (9, .long (pmF kf vf i (key kf vf (stnd kf vf j)) (stnd kf vf j))), (8, .int (kg kf i 13)), (7, .int (nI (stnd kf vf i))), (3, .int (nI y)), (2, .int (nI (stnd kf vf j))), (0, .ref X.1), (1, .int (nI j))]) 5 dX6_bound_222 rfl (by decide) rfl ?_
                        refine e_goto 36 dX6_bound_225 (by decide) ?_
                        refine e_sub [0, 1, 6, 7, 8, 9] rfl ?_
                        exact ih (i + 1) y (x + (((kg kf i 13).toInt64) + (pmF kf vf i (key kf vf (stnd kf vf j)) (stnd kf vf j)))) (by omega) (by show _ = bdS kf vf j (stnd kf vf j) i (lp (bdS kf vf j (stnd kf vf j)) i (0, lN 0)); rw [← hA, bdS]; rw [if_pos ⟨h1, h2, h3⟩, if_pos h4]; simp [h5, h6, h7, n0_l])
                    · skip
                      refine e_lload 3 dX6_bound_132 rfl ?_
                      refine e_iload 0 dX6_bound_134 rfl ?_
                      refine e_i2l dX6_bound_136 ?_
                      refine e_ladd dX6_bound_137 ?_
                      refine e_lstore (lv' := [(4, .long (x + ((kg kf i 13).toInt64))), (8, .int (kg kf i 13)), (7, .int (nI (stnd kf vf i))), (6, .int (nI i)), (3, .int (nI y)), (2, .int (nI (stnd kf vf j))), (0, .ref X.1), (1, .int (nI j))]) dX6_bound_138 (by decide) rfl ?_
                      refine e_goto 222 dX6_bound_140 (by decide) ?_
                      refine e_iinc1N (lv' := [(6, .int (nI (i + 1))), (4, .long (x + ((kg kf i 13).toInt64))), (8, .int (kg kf i 13)), (7, .int (nI (stnd kf vf i))), (3, .int (nI y)), (2, .int (nI (stnd kf vf j))), (0, .ref X.1), (1, .int (nI j))]) 3 dX6_bound_222 rfl (by decide) rfl ?_
                      refine e_goto 36 dX6_bound_225 (by decide) ?_
                      refine e_sub [0, 1, 4, 5, 6, 7] rfl ?_
                      exact ih (i + 1) y (x + ((kg kf i 13).toInt64)) (by omega) (by show _ = bdS kf vf j (stnd kf vf j) i (lp (bdS kf vf j (stnd kf vf j)) i (0, lN 0)); rw [← hA, bdS]; rw [if_pos ⟨h1, h2, h3⟩, if_pos h4]; simp [h5, h6, n0_l])
                · skip
                  refine e_iinc1N (lv' := [(3, .int (nI (y + 1))), (7, .int (nI (stnd kf vf i))), (6, .int (nI i)), (4, .long x), (2, .int (nI (stnd kf vf j))), (0, .ref X.1), (1, .int (nI j))]) 3 dX6_bound_95 rfl (by decide) rfl ?_
                  refine e_goto 222 dX6_bound_98 (by decide) ?_
                  refine e_iinc1N (lv' := [(6, .int (nI (i + 1))), (3, .int (nI (y + 1))), (7, .int (nI (stnd kf vf i))), (4, .long x), (2, .int (nI (stnd kf vf j))), (0, .ref X.1), (1, .int (nI j))]) 2 dX6_bound_222 rfl (by decide) rfl ?_
                  refine e_goto 36 dX6_bound_225 (by decide) ?_
                  refine e_sub [0, 3, 1, 4, 5, 6] rfl ?_
                  exact ih (i + 1) (y + 1) x (by omega) (by show _ = bdS kf vf j (stnd kf vf j) i (lp (bdS kf vf j (stnd kf vf j)) i (0, lN 0)); rw [← hA, bdS]; rw [if_pos ⟨h1, h2, h3⟩, if_neg h4])
              · skip
                refine e_goto 222 dX6_bound_85 (by decide) ?_
                refine e_iinc1N (lv' := [(6, .int (nI (i + 1))), (7, .int (nI (stnd kf vf i))), (4, .long x), (3, .int (nI y)), (2, .int (nI (stnd kf vf j))), (0, .ref X.1), (1, .int (nI j))]) 1 dX6_bound_222 rfl (by decide) rfl ?_
                refine e_goto 36 dX6_bound_225 (by decide) ?_
                refine e_sub [0, 2, 3, 4, 5, 6] rfl ?_
                exact ih (i + 1) y x (by omega) (by show _ = bdS kf vf j (stnd kf vf j) i (lp (bdS kf vf j (stnd kf vf j)) i (0, lN 0)); rw [← hA, bdS]; rw [if_neg (fun z => by rw [h3] at z; exact absurd z.2.2 (by decide))])
            · skip
              refine e_goto 222 dX6_bound_64 (by decide) ?_
              refine e_iinc1N (lv' := [(6, .int (nI (i + 1))), (4, .long x), (3, .int (nI y)), (2, .int (nI (stnd kf vf j))), (0, .ref X.1), (1, .int (nI j))]) 0 dX6_bound_222 rfl (by decide) rfl ?_
              refine e_goto 36 dX6_bound_225 (by decide) ?_
              refine e_sub [0, 1, 2, 3, 4, 5] rfl ?_
              exact ih (i + 1) y x (by omega) (by show _ = bdS kf vf j (stnd kf vf j) i (lp (bdS kf vf j (stnd kf vf j)) i (0, lN 0)); rw [← hA, bdS]; rw [if_neg (fun z => z.2.1 h2)])
      refine e_aload_n 0 dX6_bound_22 rfl ?_
      refine e_iload_n 1 dX6_bound_23 rfl ?_
      refine e_callV (ci := 6) (st := []) (st1 := [.int (nI (stnd kf vf j))]) (As := [.int (nI j)]) (m_standingOf hX (by omega) hn hn2 hC) dX6_bound_24 (by decide) cm_X6_standingOf lk_X6_67 im_X6_standingOf rfl sel_X6_standingOf hX.1 rfl rfl (Nat.le_of_ble_eq_true rfl) rfl ?_
      refine e_istore_n (lv' := [(2, .int (nI (stnd kf vf j))), (0, .ref X.1), (1, .int (nI j))]) dX6_bound_27 (by decide) rfl ?_
      refine e_ic (nI 0) dX6_bound_28 (by decide) ?_
      refine e_istore_n (lv' := [(3, .int (nI 0)), (2, .int (nI (stnd kf vf j))), (0, .ref X.1), (1, .int (nI j))]) dX6_bound_29 (by decide) rfl ?_
      refine e_lconst (v := lN 0) dX6_bound_30 (by decide) ?_
      refine e_lstore (lv' := [(4, .long (lN 0)), (3, .int (nI 0)), (2, .int (nI (stnd kf vf j))), (0, .ref X.1), (1, .int (nI j))]) dX6_bound_31 (by decide) rfl ?_
      refine e_ic (nI 0) dX6_bound_33 (by decide) ?_
      refine e_istore (lv' := [(6, .int (nI 0)), (4, .long (lN 0)), (3, .int (nI 0)), (2, .int (nI (stnd kf vf j))), (0, .ref X.1), (1, .int (nI j))]) dX6_bound_34 (by decide) rfl ?_
      refine e_sub [0, 1, 2, 3, 4, 5] rfl ?_
      exact L n 0 0 (lN 0) (by omega) rfl
    · skip
      refine e_ldc2 dX6_bound_18 cs_X6_176 ?_
      exact e_retL dX6_bound_21 rfl (by simp [bdR, h1, h2, cj]) rfl
end Model8
