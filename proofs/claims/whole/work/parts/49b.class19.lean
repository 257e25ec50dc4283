/-! the class: the digest -/
section Class19
variable {G : GG} {Z : Mem × YY} {m : Mem} {Y : YY} {ρ n : Nat} {kf : KF} {vf : VF}

set_option maxRecDepth 100000 in
set_option maxHeartbeats 4000000 in
theorem k_rowsSummed (hq : KQ Z m Y ρ kf vf n) {c : Nat} (h3 : kf 3 = nI c) (hc : c ≤ 8000) (d : Int64) : Ev G 0 uX3_summed [.ref (Y.1 3), .long d] m (some (.long (lp (dgK kf ρ) (5 * c) d))) m := by
  refine Ev.of (by decide +kernel) (Nat.le_of_ble_eq_true rfl) ?_
  have hce := hq.2.1.2.2.2.2.1
  rw [h3, nI_clamp (by omega)] at hce
  have hlc := hq.1.2.2.2.2.2
  unfold LC at hlc
  have L : ∀ (k i : Nat) (D : Int64), i + k = 5 * c → D = lp (dgK kf ρ) i d → EvB G 0 uX3_summed (zz m) (nn m) (some (.long (lp (dgK kf ρ) (5 * c) d))) m 5 [(5, .int (nI i)), (3, .long D), (0, .ref (Y.1 3))] [] m := by
    intro k
    induction k with
    | zero =>
      intro i D hi hD
      refine e_iload 0 dX3_summed_5 rfl ?_
      refine e_aload_n 2 dX3_summed_7 rfl ?_
      refine e_getIv (kf 3) dX3_summed_8 fl_X3_9 rfl (hq.T 3 (by decide)) hq.2.1.1.2.2.2.1 (e_iv (w := nI c) (h3) ?_)
      refine e_ic (nI 5) dX3_summed_11 (by decide) ?_
      refine e_imulN dX3_summed_12 ?_
      refine e_icmp_geN 37 dX3_summed_13 (by decide) (by omega) (by omega) (fun _ => ?_) (fun h => absurd h (by omega))
      refine e_lload_n 1 dX3_summed_37 rfl ?_
      exact e_retL dX3_summed_38 rfl (by rw [hD, show i = 5 * c by omega]) rfl
    | succ k ih =>
      intro i D hi hD
      refine e_iload 0 dX3_summed_5 rfl ?_
      refine e_aload_n 2 dX3_summed_7 rfl ?_
      refine e_getIv (kf 3) dX3_summed_8 fl_X3_9 rfl (hq.T 3 (by decide)) hq.2.1.1.2.2.2.1 (e_iv (w := nI c) (h3) ?_)
      refine e_ic (nI 5) dX3_summed_11 (by decide) ?_
      refine e_imulN dX3_summed_12 ?_
      refine e_icmp_geN 37 dX3_summed_13 (by decide) (by omega) (by omega) (fun h => absurd h (by omega)) (fun _ => ?_)
      refine e_lload_n 1 dX3_summed_16 rfl ?_
      refine e_ldc2 dX3_summed_17 cs_X3_42 ?_
      refine e_lv (w := lN 31) (by decide) ?_
      refine e_lmul dX3_summed_20 ?_
      refine e_aload_n 2 dX3_summed_21 rfl ?_
      refine e_getP (some (Y.1 4)) dX3_summed_22 fl_X3_15 rfl (hq.T 3 (by decide)) (hq.1.2.2.1.2.2.2.2.2.2.2) ?_
      refine e_iload 0 dX3_summed_25 rfl ?_
      refine e_ialdN (kf (ρ + i)) dX3_summed_27 (hq.T 4 (by decide)) (by omega) (by omega) (hce.2 i (by omega)) ?_
      refine e_i2l dX3_summed_28 ?_
      refine e_ladd dX3_summed_29 ?_
      refine e_lstore_n (lv' := [(3, .long ((D * (lN 31)) + ((kf (ρ + i)).toInt64))), (5, .int (nI i)), (0, .ref (Y.1 3))]) dX3_summed_30 (by decide) rfl ?_
      refine e_iinc1N (lv' := [(5, .int (nI (i + 1))), (3, .long ((D * (lN 31)) + ((kf (ρ + i)).toInt64))), (0, .ref (Y.1 3))]) 1 dX3_summed_31 rfl (by decide) rfl ?_
      refine e_goto 5 dX3_summed_34 (by decide) ?_
      refine e_sub [0, 1, 2] rfl ?_
      exact ih (i + 1) ((D * (lN 31)) + ((kf (ρ + i)).toInt64)) (by omega) (by show _ = dgK kf ρ i (lp (dgK kf ρ) i d); rw [← hD]; rfl)
  refine e_lvs (lv' := [(0, .ref (Y.1 3)), (1, .long d)]) rfl ?_
  refine e_lload_n 1 dX3_summed_0 rfl ?_
  refine e_lstore_n (lv' := [(3, .long d), (0, .ref (Y.1 3)), (1, .long d)]) dX3_summed_1 (by decide) rfl ?_
  refine e_ic (nI 0) dX3_summed_2 (by decide) ?_
  refine e_istore (lv' := [(5, .int (nI 0)), (3, .long d), (0, .ref (Y.1 3)), (1, .long d)]) dX3_summed_3 (by decide) rfl ?_
  refine e_sub [0, 1, 2] rfl ?_
  exact L (5 * c) 0 d (by omega) rfl

set_option maxRecDepth 100000 in
set_option maxHeartbeats 4000000 in
theorem k_summed (hq : KQ Z m Y 62000 kf vf n) (hW : WF kf n) : Ev G 2 uX0_summed [.ref (Y.1 0)] m (some (.long (dgF kf vf))) m := by
  refine Ev.of (by decide +kernel) (Nat.le_of_ble_eq_true rfl) ?_
  have hn2 := hq.n2
  obtain ⟨c, hc, h3⟩ := hW.2.2.2.2.2.2.2.1
  have L3 : ∀ (k i : Nat) (D : Int64), i + k = 12 → D = lp (dgK kf 220) i (dg3 kf vf) → EvB G 2 uX0_summed (zz m) (nn m) (some (.long (dgF kf vf))) m 180 [(3, .int (nI i)), (1, .long D), (0, .ref (Y.1 0))] [] m := by
    intro k
    induction k with
    | zero =>
      intro i D hi hD
      refine e_iload_n 0 dX0_summed_180 rfl ?_
      refine e_bipush (v := nI 12) dX0_summed_181 (by decide) ?_
      refine e_icmp_geN 206 dX0_summed_183 (by decide) (by omega) (by omega) (fun _ => ?_) (fun h => absurd h (by omega))
      refine e_lload_n 1 dX0_summed_206 rfl ?_
      exact e_retL dX0_summed_207 rfl (by rw [hD, dgF, show i = 12 by omega]) rfl
    | succ k ih =>
      intro i D hi hD
      refine e_iload_n 0 dX0_summed_180 rfl ?_
      refine e_bipush (v := nI 12) dX0_summed_181 (by decide) ?_
      refine e_icmp_geN 206 dX0_summed_183 (by decide) (by omega) (by omega) (fun h => absurd h (by omega)) (fun _ => ?_)
      refine e_lload_n 1 dX0_summed_186 rfl ?_
      refine e_ldc2 dX0_summed_187 cs_X0_336 ?_
      refine e_lv (w := lN 31) (by decide) ?_
      refine e_lmul dX0_summed_190 ?_
      refine e_aload_n 2 dX0_summed_191 rfl ?_
      refine e_getP (some (Y.1 8)) dX0_summed_192 fl_X0_40 rfl (hq.T 0 (by decide)) (hq.1.2.2.1.2.2.2.2.2.2.1) ?_
      refine e_iload_n 0 dX0_summed_195 rfl ?_
      refine e_ialdN (kf (220 + i)) dX0_summed_196 (hq.T 8 (by decide)) (by rw [hq.1.2.1.2.2.2.2.2]; exact (by omega)) (by rw [hq.1.2.1.2.2.2.2.2]; decide) (hq.2.1.2.1.2.2.1 i (by omega)) ?_
      refine e_i2l dX0_summed_197 ?_
      refine e_ladd dX0_summed_198 ?_
      refine e_lstore_n (lv' := [(1, .long ((D * (lN 31)) + ((kf (220 + i)).toInt64))), (3, .int (nI i)), (0, .ref (Y.1 0))]) dX0_summed_199 (by decide) rfl ?_
      refine e_iinc1N (lv' := [(3, .int (nI (i + 1))), (1, .long ((D * (lN 31)) + ((kf (220 + i)).toInt64))), (0, .ref (Y.1 0))]) 1 dX0_summed_200 rfl (by decide) rfl ?_
      refine e_goto 180 dX0_summed_203 (by decide) ?_
      refine e_sub [0, 1, 2] rfl ?_
      exact ih (i + 1) ((D * (lN 31)) + ((kf (220 + i)).toInt64)) (by omega) (by show _ = dgK kf 220 i (lp (dgK kf 220) i (dg3 kf vf)); rw [← hD]; rfl)
  have L2 : ∀ (k i : Nat) (D : Int64), i + k = 100 → D = lp (dgK kf 240) i (dg1 kf vf) → EvB G 2 uX0_summed (zz m) (nn m) (some (.long (dgF kf vf))) m 143 [(3, .int (nI i)), (1, .long D), (0, .ref (Y.1 0))] [] m := by
    intro k
    induction k with
    | zero =>
      intro i D hi hD
      have hD2 : D = dg2 kf vf := by rw [hD, dg2, show i = 100 by omega]
      refine e_iload_n 0 dX0_summed_143 rfl ?_
      refine e_bipush (v := nI 100) dX0_summed_144 (by decide) ?_
      refine e_icmp_geN 169 dX0_summed_146 (by decide) (by omega) (by omega) (fun _ => ?_) (fun h => absurd h (by omega))
      refine e_aload_n 2 dX0_summed_169 rfl ?_
      refine e_getP (some (Y.1 3)) dX0_summed_170 fl_X0_26 rfl (hq.T 0 (by decide)) (hq.1.2.2.1.2.2.1) ?_
      refine e_lload_n 1 dX0_summed_173 rfl ?_
      refine e_callV (ci := 3) (st := []) (st1 := [.long (dg3 kf vf)]) (As := [.long D]) ((by have z := k_rowsSummed (G := G) hq h3 hc D; rw [show lp (dgK kf 62000) (5 * c) D = dg3 kf vf by rw [hD2, dg3, ckN, h3, nI_clamp (by omega)]] at z; exact z)) dX0_summed_174 (by decide) cm_X3_summed lk_X0_341 im_X3_summed rfl sel_X3_summed (hq.T 3 (by decide)) rfl rfl (Nat.le_of_ble_eq_true rfl) rfl ?_
      refine e_lstore_n (lv' := [(1, .long (dg3 kf vf)), (3, .int (nI i)), (0, .ref (Y.1 0))]) dX0_summed_177 (by decide) rfl ?_
      refine e_ic (nI 0) dX0_summed_178 (by decide) ?_
      refine e_istore_n (lv' := [(3, .int (nI 0)), (1, .long (dg3 kf vf)), (0, .ref (Y.1 0))]) dX0_summed_179 (by decide) rfl ?_
      refine e_sub [0, 1, 2] rfl ?_
      exact L3 12 0 _ (by omega) rfl
    | succ k ih =>
      intro i D hi hD
      refine e_iload_n 0 dX0_summed_143 rfl ?_
      refine e_bipush (v := nI 100) dX0_summed_144 (by decide) ?_
      refine e_icmp_geN 169 dX0_summed_146 (by decide) (by omega) (by omega) (fun h => absurd h (by omega)) (fun _ => ?_)
      refine e_lload_n 1 dX0_summed_149 rfl ?_
      refine e_ldc2 dX0_summed_150 cs_X0_336 ?_
      refine e_lv (w := lN 31) (by decide) ?_
      refine e_lmul dX0_summed_153 ?_
      refine e_aload_n 2 dX0_summed_154 rfl ?_
      refine e_getP (some (Y.1 5)) dX0_summed_155 fl_X0_30 rfl (hq.T 0 (by decide)) (hq.1.2.2.1.2.2.2.1) ?_
      refine e_iload_n 0 dX0_summed_158 rfl ?_
      refine e_ialdN (kf (240 + i)) dX0_summed_159 (hq.T 5 (by decide)) (by rw [hq.1.2.1.2.2.1]; exact (by omega)) (by rw [hq.1.2.1.2.2.1]; decide) (hq.2.1.2.1.2.2.2 i (by omega)) ?_
      refine e_i2l dX0_summed_160 ?_
      refine e_ladd dX0_summed_161 ?_
      refine e_lstore_n (lv' := [(1, .long ((D * (lN 31)) + ((kf (240 + i)).toInt64))), (3, .int (nI i)), (0, .ref (Y.1 0))]) dX0_summed_162 (by decide) rfl ?_
      refine e_iinc1N (lv' := [(3, .int (nI (i + 1))), (1, .long ((D * (lN 31)) + ((kf (240 + i)).toInt64))), (0, .ref (Y.1 0))]) 1 dX0_summed_163 rfl (by decide) rfl ?_
      refine e_goto 143 dX0_summed_166 (by decide) ?_
      refine e_sub [0, 1, 2] rfl ?_
      exact ih (i + 1) ((D * (lN 31)) + ((kf (240 + i)).toInt64)) (by omega) (by show _ = dgK kf 240 i (lp (dgK kf 240) i (dg1 kf vf)); rw [← hD]; rfl)
  have L1 : ∀ (k i : Nat) (D : Int64), i + k = n → D = lp (dgT kf vf) i (dg0 kf) → EvB G 2 uX0_summed (zz m) (nn m) (some (.long (dgF kf vf))) m 42 [(3, .int (nI i)), (1, .long D), (0, .ref (Y.1 0))] [] m := by
    intro k
    induction k with
    | zero =>
      intro i D hi hD
      refine e_iload_n 0 dX0_summed_42 rfl ?_
      refine e_aload_n 2 dX0_summed_43 rfl ?_
      refine e_getIv (nI n) dX0_summed_44 fl_X0_43 rfl (hq.T 0 (by decide)) hq.n7 ?_
      refine e_icmp_geN 141 dX0_summed_47 (by decide) (by omega) (by omega) (fun _ => ?_) (fun h => absurd h (by omega))
      refine e_ic (nI 0) dX0_summed_141 (by decide) ?_
      refine e_istore_n (lv' := [(3, .int (nI 0)), (1, .long D), (0, .ref (Y.1 0))]) dX0_summed_142 (by decide) rfl ?_
      refine e_sub [0, 1, 2] rfl ?_
      exact L2 100 0 _ (by omega) (by rw [hD, show i = n by omega]; show _ = dg1 kf vf; rw [dg1, hW.nt])
    | succ k ih =>
      intro i D hi hD
      have hin : i < n := by omega
      have hm := hW.hm i hin
      have LB : ∀ (k2 j : Nat) (E : Int64), j + k2 = mny kf i → E = lp (dgM kf i) j (dg (lp (dgA kf i) 15 D) (vf i)) → EvB G 2 uX0_summed (zz m) (nn m) (some (.long (dgF kf vf))) m 104 [(5, .int (nI j)), (1, .long E), (0, .ref (Y.1 0)), (3, .int (nI i)), (4, .ref (Y.1 (9 + i)))] [] m := by
        intro k2
        induction k2 with
        | zero =>
          intro j E hj hE
          rcases hm with hc4 | ⟨c4, hc4, e4⟩
          · have hj0 : mny kf i = 0 := by unfold mny; rw [hc4]; decide
            refine e_iload 0 dX0_summed_104 rfl ?_
            refine e_aload 4 dX0_summed_106 rfl ?_
            refine e_getIv (kg kf i 14) dX0_summed_108 fl_X0_296 rfl (hq.Tt (by omega)) (hq.gt (by omega) 14 _ (by decide) rfl) ?_
            refine e_icmp_ge 135 dX0_summed_111 (by decide) (fun _ => ?_) (fun h => absurd h (not_not_intro (by rw [hc4]; exact Int32.le_trans (by decide) (nI_pos' (by omega)))))
            refine e_iinc1N (lv' := [(3, .int (nI (i + 1))), (5, .int (nI j)), (1, .long E), (0, .ref (Y.1 0)), (4, .ref (Y.1 (9 + i)))]) 3 dX0_summed_135 rfl (by decide) rfl ?_
            refine e_goto 42 dX0_summed_138 (by decide) ?_
            refine e_sub [0, 2, 3] rfl ?_
            exact ih (i + 1) E (by omega) (by show _ = dgT kf vf i (lp (dgT kf vf) i (dg0 kf)); rw [← hD, hE, dgT, show j = mny kf i by omega])
          · have hj0 : mny kf i = c4 := by unfold mny; rw [e4, nI_clamp (by omega)]
            refine e_iload 0 dX0_summed_104 rfl ?_
            refine e_aload 4 dX0_summed_106 rfl ?_
            refine e_getIv (kg kf i 14) dX0_summed_108 fl_X0_296 rfl (hq.Tt (by omega)) (hq.gt (by omega) 14 _ (by decide) rfl) (e_iv (w := nI c4) (e4) ?_)
            refine e_icmp_geN 135 dX0_summed_111 (by decide) (by omega) (by omega) (fun _ => ?_) (fun h => absurd h (by omega))
            refine e_iinc1N (lv' := [(3, .int (nI (i + 1))), (5, .int (nI j)), (1, .long E), (0, .ref (Y.1 0)), (4, .ref (Y.1 (9 + i)))]) 3 dX0_summed_135 rfl (by decide) rfl ?_
            refine e_goto 42 dX0_summed_138 (by decide) ?_
            refine e_sub [0, 2, 3] rfl ?_
            exact ih (i + 1) E (by omega) (by show _ = dgT kf vf i (lp (dgT kf vf) i (dg0 kf)); rw [← hD, hE, dgT, show j = mny kf i by omega])
        | succ k2 ih2 =>
          intro j E hj hE
          rcases hm with hc4 | ⟨c4, hc4, e4⟩
          · have hj0 : mny kf i = 0 := by unfold mny; rw [hc4]; decide
            omega
          · have hj0 : mny kf i = c4 := by unfold mny; rw [e4, nI_clamp (by omega)]
            have hsv : smV kf i (nI j) = kf (4400 + 128 * i + j) := by
              rw [smV, e4, pk_sub (by omega), inI_of (by omega) (by omega) (by omega), if_pos rfl, nI_clamp (by omega)]
            refine e_iload 0 dX0_summed_104 rfl ?_
            refine e_aload 4 dX0_summed_106 rfl ?_
            refine e_getIv (kg kf i 14) dX0_summed_108 fl_X0_296 rfl (hq.Tt (by omega)) (hq.gt (by omega) 14 _ (by decide) rfl) (e_iv (w := nI c4) (e4) ?_)
            refine e_icmp_geN 135 dX0_summed_111 (by decide) (by omega) (by omega) (fun h => absurd h (by omega)) (fun _ => ?_)
            refine e_lload_n 1 dX0_summed_114 rfl ?_
            refine e_ldc2 dX0_summed_115 cs_X0_336 ?_
            refine e_lv (w := lN 31) (by decide) ?_
            refine e_lmul dX0_summed_118 ?_
            refine e_aload 4 dX0_summed_119 rfl ?_
            refine e_iload 0 dX0_summed_121 rfl ?_
            refine e_callV (ci := 4) (st := [.long (E * (lN 31))]) (st1 := [.int (kf (4400 + 128 * i + j)), .long (E * (lN 31))]) (As := [.int (nI j)]) ((by have z := k_shortAt (G := G) hq hin (Or.inr ⟨c4, hc4, e4⟩) (nI j); rw [hsv] at z; exact z)) dX0_summed_123 (by decide) cm_X4_shortAt lk_X0_313 im_X4_shortAt rfl sel_X4_shortAt (hq.Tt (by omega)) rfl rfl (Nat.le_of_ble_eq_true rfl) rfl ?_
            refine e_i2l dX0_summed_126 ?_
            refine e_ladd dX0_summed_127 ?_
            refine e_lstore_n (lv' := [(1, .long ((E * (lN 31)) + ((kf (4400 + 128 * i + j)).toInt64))), (5, .int (nI j)), (0, .ref (Y.1 0)), (3, .int (nI i)), (4, .ref (Y.1 (9 + i)))]) dX0_summed_128 (by decide) rfl ?_
            refine e_iinc1N (lv' := [(5, .int (nI (j + 1))), (1, .long ((E * (lN 31)) + ((kf (4400 + 128 * i + j)).toInt64))), (0, .ref (Y.1 0)), (3, .int (nI i)), (4, .ref (Y.1 (9 + i)))]) 1 dX0_summed_129 rfl (by decide) rfl ?_
            refine e_goto 104 dX0_summed_132 (by decide) ?_
            refine e_sub [0, 1, 2, 3, 4] rfl ?_
            exact ih2 (j + 1) ((E * (lN 31)) + ((kf (4400 + 128 * i + j)).toInt64)) (by omega) (by show _ = dgM kf i j (lp (dgM kf i) j (dg (lp (dgA kf i) 15 D) (vf i))); rw [← hE]; rfl)
      have LA : ∀ (k2 j : Nat) (E : Int64), j + k2 = 15 → E = lp (dgA kf i) j D → EvB G 2 uX0_summed (zz m) (nn m) (some (.long (dgF kf vf))) m 61 [(5, .int (nI j)), (1, .long E), (0, .ref (Y.1 0)), (3, .int (nI i)), (4, .ref (Y.1 (9 + i)))] [] m := by
        intro k2
        induction k2 with
        | zero =>
          intro j E hj hE
          refine e_iload 0 dX0_summed_61 rfl ?_
          refine e_bipush (v := nI 14) dX0_summed_63 (by decide) ?_
          refine e_icmp_gtN 89 dX0_summed_65 (by decide) (by omega) (by omega) (fun _ => ?_) (fun h => absurd h (by omega))
          refine e_lload_n 1 dX0_summed_89 rfl ?_
          refine e_ldc2 dX0_summed_90 cs_X0_336 ?_
          refine e_lv (w := lN 31) (by decide) ?_
          refine e_lmul dX0_summed_93 ?_
          refine e_aload 4 dX0_summed_94 rfl ?_
          refine e_getLv (vf i) dX0_summed_96 fl_X0_111 rfl (hq.Tt (by omega)) (hq.gv (by omega)) ?_
          refine e_ladd dX0_summed_99 ?_
          refine e_lstore_n (lv' := [(1, .long ((E * (lN 31)) + (vf i))), (5, .int (nI j)), (0, .ref (Y.1 0)), (3, .int (nI i)), (4, .ref (Y.1 (9 + i)))]) dX0_summed_100 (by decide) rfl ?_
          refine e_ic (nI 0) dX0_summed_101 (by decide) ?_
          refine e_istore (lv' := [(5, .int (nI 0)), (1, .long ((E * (lN 31)) + (vf i))), (0, .ref (Y.1 0)), (3, .int (nI i)), (4, .ref (Y.1 (9 + i)))]) dX0_summed_102 (by decide) rfl ?_
          refine e_sub [0, 1, 2, 3, 4] rfl ?_
          exact LB (mny kf i) 0 ((E * (lN 31)) + (vf i)) (by omega) (by show _ = (dg (lp (dgA kf i) 15 D) (vf i)); rw [hE, show j = 15 by omega]; rfl)
        | succ k2 ih2 =>
          intro j E hj hE
          refine e_iload 0 dX0_summed_61 rfl ?_
          refine e_bipush (v := nI 14) dX0_summed_63 (by decide) ?_
          refine e_icmp_gtN 89 dX0_summed_65 (by decide) (by omega) (by omega) (fun h => absurd h (by omega)) (fun _ => ?_)
          refine e_lload_n 1 dX0_summed_68 rfl ?_
          refine e_ldc2 dX0_summed_69 cs_X0_336 ?_
          refine e_lv (w := lN 31) (by decide) ?_
          refine e_lmul dX0_summed_72 ?_
          refine e_aload 4 dX0_summed_73 rfl ?_
          refine e_iload 0 dX0_summed_75 rfl ?_
          refine e_callV (ci := 4) (st := [.long (E * (lN 31))]) (st1 := [.int (abR kf (nI i) (nI j)), .long (E * (lN 31))]) (As := [.int (nI j)]) (k_tell hq hin (nI j)) dX0_summed_77 (by decide) cm_X4_tell lk_X0_338 im_X4_tell rfl sel_X4_tell (hq.Tt (by omega)) rfl rfl (Nat.le_of_ble_eq_true rfl) rfl ?_
          refine e_i2l dX0_summed_80 ?_
          refine e_ladd dX0_summed_81 ?_
          refine e_lstore_n (lv' := [(1, .long ((E * (lN 31)) + ((abR kf (nI i) (nI j)).toInt64))), (5, .int (nI j)), (0, .ref (Y.1 0)), (3, .int (nI i)), (4, .ref (Y.1 (9 + i)))]) dX0_summed_82 (by decide) rfl ?_
          refine e_iinc1N (lv' := [(5, .int (nI (j + 1))), (1, .long ((E * (lN 31)) + ((abR kf (nI i) (nI j)).toInt64))), (0, .ref (Y.1 0)), (3, .int (nI i)), (4, .ref (Y.1 (9 + i)))]) 1 dX0_summed_83 rfl (by decide) rfl ?_
          refine e_goto 61 dX0_summed_86 (by decide) ?_
          refine e_sub [0, 1, 2, 3, 4] rfl ?_
          exact ih2 (j + 1) ((E * (lN 31)) + ((abR kf (nI i) (nI j)).toInt64)) (by omega) (by show _ = dgA kf i j (lp (dgA kf i) j D); rw [← hE]; rfl)
      refine e_iload_n 0 dX0_summed_42 rfl ?_
      refine e_aload_n 2 dX0_summed_43 rfl ?_
      refine e_getIv (nI n) dX0_summed_44 fl_X0_43 rfl (hq.T 0 (by decide)) hq.n7 ?_
      refine e_icmp_geN 141 dX0_summed_47 (by decide) (by omega) (by omega) (fun h => absurd h (by omega)) (fun _ => ?_)
      refine e_aload_n 2 dX0_summed_50 rfl ?_
      refine e_getP (some (Y.1 1)) dX0_summed_51 fl_X0_11 rfl (hq.T 0 (by decide)) (hq.1.2.2.1.1) ?_
      refine e_iload_n 0 dX0_summed_54 rfl ?_
      refine e_aaldN (some (Y.1 (9 + i))) dX0_summed_55 (hq.T 1 (by decide)) (Or.inr rfl) (by rw [hq.1.2.1.1]; exact (by omega)) (by rw [hq.1.2.1.1]; decide) (hq.pt (by omega)) ?_
      refine e_astore (lv' := [(4, .ref (Y.1 (9 + i))), (3, .int (nI i)), (1, .long D), (0, .ref (Y.1 0))]) dX0_summed_56 (by decide) rfl ?_
      refine e_ic (nI 0) dX0_summed_58 (by decide) ?_
      refine e_istore (lv' := [(5, .int (nI 0)), (4, .ref (Y.1 (9 + i))), (3, .int (nI i)), (1, .long D), (0, .ref (Y.1 0))]) dX0_summed_59 (by decide) rfl ?_
      refine e_sub [0, 3, 4, 2, 1] rfl ?_
      exact LA 15 0 D (by omega) rfl
  refine e_lvs (lv' := [(0, .ref (Y.1 0))]) rfl ?_
  refine e_ldc2 dX0_summed_0 cs_X0_334 ?_
  refine e_lv (w := lN 7) (by decide) ?_
  refine e_lstore_n (lv' := [(1, .long (lN 7)), (0, .ref (Y.1 0))]) dX0_summed_3 (by decide) rfl ?_
  refine e_lload_n 0 dX0_summed_4 rfl ?_
  refine e_ldc2 dX0_summed_5 cs_X0_336 ?_
  refine e_lv (w := lN 31) (by decide) ?_
  refine e_lmul dX0_summed_8 ?_
  refine e_aload_n 1 dX0_summed_9 rfl ?_
  refine e_getIv (kf 0) dX0_summed_10 fl_X0_47 rfl (hq.T 0 (by decide)) hq.2.1.1.1 ?_
  refine e_i2l dX0_summed_13 ?_
  refine e_ladd dX0_summed_14 ?_
  refine e_lstore_n (lv' := [(1, .long (((lN 7) * (lN 31)) + ((kf 0).toInt64))), (0, .ref (Y.1 0))]) dX0_summed_15 (by decide) rfl ?_
  refine e_lload_n 0 dX0_summed_16 rfl ?_
  refine e_ldc2 dX0_summed_17 cs_X0_336 ?_
  refine e_lv (w := lN 31) (by decide) ?_
  refine e_lmul dX0_summed_20 ?_
  refine e_aload_n 1 dX0_summed_21 rfl ?_
  refine e_getIv (nI n) dX0_summed_22 fl_X0_43 rfl (hq.T 0 (by decide)) hq.n7 ?_
  refine e_i2lN dX0_summed_25 (by omega) ?_
  refine e_ladd dX0_summed_26 ?_
  refine e_lstore_n (lv' := [(1, .long (((((lN 7) * (lN 31)) + ((kf 0).toInt64)) * (lN 31)) + (lN n))), (0, .ref (Y.1 0))]) dX0_summed_27 (by decide) rfl ?_
  refine e_lload_n 0 dX0_summed_28 rfl ?_
  refine e_ldc2 dX0_summed_29 cs_X0_336 ?_
  refine e_lv (w := lN 31) (by decide) ?_
  refine e_lmul dX0_summed_32 ?_
  refine e_aload_n 1 dX0_summed_33 rfl ?_
  refine e_getIv (kf 2) dX0_summed_34 fl_X0_50 rfl (hq.T 0 (by decide)) hq.2.1.1.2.2.1 ?_
  refine e_i2l dX0_summed_37 ?_
  refine e_ladd dX0_summed_38 ?_
  refine e_lstore_n (lv' := [(1, .long (((((((lN 7) * (lN 31)) + ((kf 0).toInt64)) * (lN 31)) + (lN n)) * (lN 31)) + ((kf 2).toInt64))), (0, .ref (Y.1 0))]) dX0_summed_39 (by decide) rfl ?_
  refine e_ic (nI 0) dX0_summed_40 (by decide) ?_
  refine e_istore_n (lv' := [(3, .int (nI 0)), (1, .long (((((((lN 7) * (lN 31)) + ((kf 0).toInt64)) * (lN 31)) + (lN n)) * (lN 31)) + ((kf 2).toInt64))), (0, .ref (Y.1 0))]) dX0_summed_41 (by decide) rfl ?_
  refine e_sub [0, 1, 2] rfl ?_
  exact L1 n 0 _ (by omega) (by show _ = dg0 kf; rw [dg0, hq.n1, nI_l (show n < 2 ^ 31 by omega)]; rfl)

end Class19
