/-! the reference: digest -/
section Model9
variable {G : GG} {m : Mem} {X : XX} {kf : KF} {vf : VF} {lf : Nat → Int32}
set_option maxRecDepth 100000 in
set_option maxHeartbeats 4000000 in
theorem m_digest (hX : MW m X) {n c : Nat} (hn : kf 1 = nI n) (hn2 : n ≤ 200) (hr : kf 3 = nI c) (hc : c ≤ 8000) (hm : HM kf n) : Ev G 3 uX6_digest [.ref X.1] (MM m X (kf, vf, lf)) (some (.long (dgF kf vf))) (MM m X (kf, vf, lf)) := by
  refine Ev.of (by decide +kernel) (Nat.le_of_ble_eq_true rfl) ?_
  have hN : ckN kf = 5 * c := by rw [ckN, hr, nI_clamp (by omega)]
  have L5 : ∀ (k i : Nat) (d : Int64), i + k = 12 → d = lp (dgK kf 220) i (dg3 kf vf) → EvB G 3 uX6_digest (zz (MM m X (kf, vf, lf))) (nn (MM m X (kf, vf, lf))) (some (.long (dgF kf vf))) (MM m X (kf, vf, lf)) 225 [(3, .int (nI i)), (1, .long d), (0, .ref X.1)] [] (MM m X (kf, vf, lf)) := by
    intro k
    induction k with
    | zero =>
      intro i d hi hd
      refine e_iload_n 0 dX6_digest_225 rfl ?_
      refine e_bipush (v := nI 12) dX6_digest_226 (by decide) ?_
      refine e_icmp_geN 255 dX6_digest_228 (by decide) (by omega) (by omega) (fun _ => ?_) (fun h => absurd h (by omega))
      refine e_lload_n 1 dX6_digest_255 rfl ?_
      exact e_retL dX6_digest_256 rfl (by rw [hd, show i = 12 by omega]; rfl) rfl
    | succ k ih =>
      intro i d hi hd
      refine e_iload_n 0 dX6_digest_225 rfl ?_
      refine e_bipush (v := nI 12) dX6_digest_226 (by decide) ?_
      refine e_icmp_geN 255 dX6_digest_228 (by decide) (by omega) (by omega) (fun h => absurd h (by omega)) (fun _ => ?_)
      refine e_lload_n 1 dX6_digest_231 rfl ?_
      refine e_ldc2 dX6_digest_232 cs_X6_125 ?_
      refine e_lv (w := lN 31) (by decide) ?_
      refine e_lmul dX6_digest_235 ?_
      refine e_aload_n 2 dX6_digest_236 rfl ?_
      refine e_mk hX dX6_digest_237 fl_X6_8 ?_
      refine e_sipush (v := nI 220) dX6_digest_240 (by decide) ?_
      refine e_iload_n 0 dX6_digest_243 rfl ?_
      refine e_iaddN dX6_digest_244 ?_
      refine e_kld hX dX6_digest_245 (by omega) ?_
      refine e_i2l dX6_digest_246 ?_
      refine e_ladd dX6_digest_247 ?_
      refine e_lstore_n (lv' := [(1, .long ((d * (lN 31)) + ((kf (220 + i)).toInt64))), (3, .int (nI i)), (0, .ref X.1)]) dX6_digest_248 (by decide) rfl ?_
      refine e_iinc1N (lv' := [(3, .int (nI (i + 1))), (1, .long ((d * (lN 31)) + ((kf (220 + i)).toInt64))), (0, .ref X.1)]) 1 dX6_digest_249 rfl (by decide) rfl ?_
      refine e_goto 225 dX6_digest_252 (by decide) ?_
      refine e_sub [0, 1, 2] rfl ?_
      exact ih (i + 1) _ (by omega) (by rw [hd]; rfl)
  have L4 : ∀ (k i : Nat) (d : Int64), i + k = 5 * c → d = lp (dgK kf 62000) i (dg2 kf vf) → EvB G 3 uX6_digest (zz (MM m X (kf, vf, lf))) (nn (MM m X (kf, vf, lf))) (some (.long (dgF kf vf))) (MM m X (kf, vf, lf)) 188 [(3, .int (nI i)), (1, .long d), (0, .ref X.1)] [] (MM m X (kf, vf, lf)) := by
    intro k
    induction k with
    | zero =>
      intro i d hi hd
      refine e_iload_n 0 dX6_digest_188 rfl ?_
      refine e_ic (nI 5) dX6_digest_189 (by decide) ?_
      refine e_aload_n 2 dX6_digest_190 rfl ?_
      refine e_mk hX dX6_digest_191 fl_X6_8 ?_
      refine e_ic (nI 3) dX6_digest_194 (by decide) ?_
      refine e_kld hX dX6_digest_195 (by omega) (e_iv (w := nI c) (hr) ?_)
      refine e_imulN dX6_digest_196 ?_
      refine e_icmp_geN 223 dX6_digest_197 (by decide) (by omega) (by omega) (fun _ => ?_) (fun h => absurd h (by omega))
      refine e_ic (nI 0) dX6_digest_223 (by decide) ?_
      refine e_istore_n (lv' := [(3, .int (nI 0)), (1, .long d), (0, .ref X.1)]) dX6_digest_224 (by decide) rfl ?_
      refine e_sub [0, 1, 2] rfl ?_
      exact L5 12 0 d (by omega) (by rw [hd, show i = 5 * c by omega, ← hN]; rfl)
    | succ k ih =>
      intro i d hi hd
      refine e_iload_n 0 dX6_digest_188 rfl ?_
      refine e_ic (nI 5) dX6_digest_189 (by decide) ?_
      refine e_aload_n 2 dX6_digest_190 rfl ?_
      refine e_mk hX dX6_digest_191 fl_X6_8 ?_
      refine e_ic (nI 3) dX6_digest_194 (by decide) ?_
      refine e_kld hX dX6_digest_195 (by omega) (e_iv (w := nI c) (hr) ?_)
      refine e_imulN dX6_digest_196 ?_
      refine e_icmp_geN 223 dX6_digest_197 (by decide) (by omega) (by omega) (fun h => absurd h (by omega)) (fun _ => ?_)
      refine e_lload_n 1 dX6_digest_200 rfl ?_
      refine e_ldc2 dX6_digest_201 cs_X6_125 ?_
      refine e_lv (w := lN 31) (by decide) ?_
      refine e_lmul dX6_digest_204 ?_
      refine e_aload_n 2 dX6_digest_205 rfl ?_
      refine e_mk hX dX6_digest_206 fl_X6_8 ?_
      refine e_ldc dX6_digest_209 cs_X6_140 ?_
      refine e_iv (w := nI 62000) (by decide) ?_
      refine e_iload_n 0 dX6_digest_211 rfl ?_
      refine e_iaddN dX6_digest_212 ?_
      refine e_kld hX dX6_digest_213 (by omega) ?_
      refine e_i2l dX6_digest_214 ?_
      refine e_ladd dX6_digest_215 ?_
      refine e_lstore_n (lv' := [(1, .long ((d * (lN 31)) + ((kf (62000 + i)).toInt64))), (3, .int (nI i)), (0, .ref X.1)]) dX6_digest_216 (by decide) rfl ?_
      refine e_iinc1N (lv' := [(3, .int (nI (i + 1))), (1, .long ((d * (lN 31)) + ((kf (62000 + i)).toInt64))), (0, .ref X.1)]) 1 dX6_digest_217 rfl (by decide) rfl ?_
      refine e_goto 188 dX6_digest_220 (by decide) ?_
      refine e_sub [0, 1, 2] rfl ?_
      exact ih (i + 1) _ (by omega) (by rw [hd]; rfl)
  have L3 : ∀ (k i : Nat) (d : Int64), i + k = 100 → d = lp (dgK kf 240) i (dg1 kf vf) → EvB G 3 uX6_digest (zz (MM m X (kf, vf, lf))) (nn (MM m X (kf, vf, lf))) (some (.long (dgF kf vf))) (MM m X (kf, vf, lf)) 156 [(3, .int (nI i)), (1, .long d), (0, .ref X.1)] [] (MM m X (kf, vf, lf)) := by
    intro k
    induction k with
    | zero =>
      intro i d hi hd
      refine e_iload_n 0 dX6_digest_156 rfl ?_
      refine e_bipush (v := nI 100) dX6_digest_157 (by decide) ?_
      refine e_icmp_geN 186 dX6_digest_159 (by decide) (by omega) (by omega) (fun _ => ?_) (fun h => absurd h (by omega))
      refine e_ic (nI 0) dX6_digest_186 (by decide) ?_
      refine e_istore_n (lv' := [(3, .int (nI 0)), (1, .long d), (0, .ref X.1)]) dX6_digest_187 (by decide) rfl ?_
      refine e_sub [0, 1, 2] rfl ?_
      exact L4 (5 * c) 0 d (by omega) (by rw [hd, show i = 100 by omega]; rfl)
    | succ k ih =>
      intro i d hi hd
      refine e_iload_n 0 dX6_digest_156 rfl ?_
      refine e_bipush (v := nI 100) dX6_digest_157 (by decide) ?_
      refine e_icmp_geN 186 dX6_digest_159 (by decide) (by omega) (by omega) (fun h => absurd h (by omega)) (fun _ => ?_)
      refine e_lload_n 1 dX6_digest_162 rfl ?_
      refine e_ldc2 dX6_digest_163 cs_X6_125 ?_
      refine e_lv (w := lN 31) (by decide) ?_
      refine e_lmul dX6_digest_166 ?_
      refine e_aload_n 2 dX6_digest_167 rfl ?_
      refine e_mk hX dX6_digest_168 fl_X6_8 ?_
      refine e_sipush (v := nI 240) dX6_digest_171 (by decide) ?_
      refine e_iload_n 0 dX6_digest_174 rfl ?_
      refine e_iaddN dX6_digest_175 ?_
      refine e_kld hX dX6_digest_176 (by omega) ?_
      refine e_i2l dX6_digest_177 ?_
      refine e_ladd dX6_digest_178 ?_
      refine e_lstore_n (lv' := [(1, .long ((d * (lN 31)) + ((kf (240 + i)).toInt64))), (3, .int (nI i)), (0, .ref X.1)]) dX6_digest_179 (by decide) rfl ?_
      refine e_iinc1N (lv' := [(3, .int (nI (i + 1))), (1, .long ((d * (lN 31)) + ((kf (240 + i)).toInt64))), (0, .ref X.1)]) 1 dX6_digest_180 rfl (by decide) rfl ?_
      refine e_goto 156 dX6_digest_183 (by decide) ?_
      refine e_sub [0, 1, 2] rfl ?_
      exact ih (i + 1) _ (by omega) (by rw [hd]; rfl)
  have L2 : ∀ (k i : Nat) (d : Int64), i + k = n → d = lp (dgT kf vf) i (dg0 kf) → EvB G 3 uX6_digest (zz (MM m X (kf, vf, lf))) (nn (MM m X (kf, vf, lf))) (some (.long (dgF kf vf))) (MM m X (kf, vf, lf)) 48 [(3, .int (nI i)), (1, .long d), (0, .ref X.1)] [] (MM m X (kf, vf, lf)) := by
    intro k
    induction k with
    | zero =>
      intro i d hi hd
      refine e_iload_n 0 dX6_digest_48 rfl ?_
      refine e_aload_n 2 dX6_digest_49 rfl ?_
      refine e_mk hX dX6_digest_50 fl_X6_8 ?_
      refine e_ic (nI 1) dX6_digest_53 (by decide) ?_
      refine e_kld hX dX6_digest_54 (by omega) (e_iv (w := nI n) (hn) ?_)
      refine e_icmp_geN 154 dX6_digest_55 (by decide) (by omega) (by omega) (fun _ => ?_) (fun h => absurd h (by omega))
      refine e_ic (nI 0) dX6_digest_154 (by decide) ?_
      refine e_istore_n (lv' := [(3, .int (nI 0)), (1, .long d), (0, .ref X.1)]) dX6_digest_155 (by decide) rfl ?_
      refine e_sub [0, 1, 2] rfl ?_
      exact L3 100 0 d (by omega) (by rw [hd, show i = n by omega, ← nT_of hn hn2]; rfl)
    | succ k ih =>
      intro i d hi hd
      have hmc : mny kf i ≤ 127 := mny_le hm (by omega)
      have M : ∀ (k' q : Nat) (e : Int64), q + k' = mny kf i → e = lp (dgM kf i) q (dg (lp (dgA kf i) 15 d) (vf i)) → EvB G 3 uX6_digest (zz (MM m X (kf, vf, lf))) (nn (MM m X (kf, vf, lf))) (some (.long (dgF kf vf))) (MM m X (kf, vf, lf)) 105 [(4, .int (nI q)), (3, .int (nI i)), (1, .long e), (0, .ref X.1)] [] (MM m X (kf, vf, lf)) := by
        intro k'
        induction k' with
        | zero =>
          intro q e hq he
          refine e_iload 0 dX6_digest_105 rfl ?_
          refine e_aload_n 3 dX6_digest_107 rfl ?_
          refine e_iload_n 1 dX6_digest_108 rfl ?_
          refine e_bipush (v := nI 14) dX6_digest_109 (by decide) ?_
          refine e_callV (ci := 6) (st := [.int (nI q)]) (st1 := [.int (kg kf i 14), .int (nI q)]) (As := [.int (nI i), .int (nI 14)]) (m_get hX (kg_lt (by omega) (by omega))) dX6_digest_111 (by decide) cm_X6_get lk_X6_36 im_X6_get rfl sel_X6_get hX.1 rfl rfl (Nat.le_of_ble_eq_true rfl) rfl ?_
          refine e_icmp_ge 148 dX6_digest_114 (by decide) (fun _ => ?_) (fun h => absurd h (not_not_intro ((mny_cmp hm (by omega) q (by omega)).mpr (by omega))))
          refine e_iinc1N (lv' := [(3, .int (nI (i + 1))), (4, .int (nI q)), (1, .long e), (0, .ref X.1)]) 1 dX6_digest_148 rfl (by decide) rfl ?_
          refine e_goto 48 dX6_digest_151 (by decide) ?_
          refine e_sub [0, 2, 3] rfl ?_
          exact ih (i + 1) e (by omega) (by rw [he, show q = mny kf i by omega, hd]; rfl)
        | succ k' ihM =>
          intro q e hq he
          refine e_iload 0 dX6_digest_105 rfl ?_
          refine e_aload_n 3 dX6_digest_107 rfl ?_
          refine e_iload_n 1 dX6_digest_108 rfl ?_
          refine e_bipush (v := nI 14) dX6_digest_109 (by decide) ?_
          refine e_callV (ci := 6) (st := [.int (nI q)]) (st1 := [.int (kg kf i 14), .int (nI q)]) (As := [.int (nI i), .int (nI 14)]) (m_get hX (kg_lt (by omega) (by omega))) dX6_digest_111 (by decide) cm_X6_get lk_X6_36 im_X6_get rfl sel_X6_get hX.1 rfl rfl (Nat.le_of_ble_eq_true rfl) rfl ?_
          refine e_icmp_ge 148 dX6_digest_114 (by decide) (fun h => absurd h (mt (mny_cmp hm (by omega) q (by omega)).mp (by omega))) (fun _ => ?_)
          refine e_lload_n 2 dX6_digest_117 rfl ?_
          refine e_ldc2 dX6_digest_118 cs_X6_125 ?_
          refine e_lv (w := lN 31) (by decide) ?_
          refine e_lmul dX6_digest_121 ?_
          refine e_aload_n 3 dX6_digest_122 rfl ?_
          refine e_mk hX dX6_digest_123 fl_X6_8 ?_
          refine e_sipush (v := nI 4400) dX6_digest_126 (by decide) ?_
          refine e_sipush (v := nI 128) dX6_digest_129 (by decide) ?_
          refine e_iload_n 1 dX6_digest_132 rfl ?_
          refine e_imulN dX6_digest_133 ?_
          refine e_iaddN dX6_digest_134 ?_
          refine e_iload 0 dX6_digest_135 rfl ?_
          refine e_iaddN dX6_digest_137 ?_
          refine e_kld hX dX6_digest_138 (by omega) ?_
          refine e_i2l dX6_digest_139 ?_
          refine e_ladd dX6_digest_140 ?_
          refine e_lstore_n (lv' := [(1, .long ((e * (lN 31)) + ((kf ((4400 + (128 * i)) + q)).toInt64))), (4, .int (nI q)), (3, .int (nI i)), (0, .ref X.1)]) dX6_digest_141 (by decide) rfl ?_
          refine e_iinc1N (lv' := [(4, .int (nI (q + 1))), (1, .long ((e * (lN 31)) + ((kf ((4400 + (128 * i)) + q)).toInt64))), (3, .int (nI i)), (0, .ref X.1)]) 1 dX6_digest_142 rfl (by decide) rfl ?_
          refine e_goto 105 dX6_digest_145 (by decide) ?_
          refine e_sub [0, 2, 1, 3] rfl ?_
          exact ihM (q + 1) _ (by omega) (by rw [he]; rfl)
      have A : ∀ (k' q : Nat) (e : Int64), q + k' = 15 → e = lp (dgA kf i) q d → EvB G 3 uX6_digest (zz (MM m X (kf, vf, lf))) (nn (MM m X (kf, vf, lf))) (some (.long (dgF kf vf))) (MM m X (kf, vf, lf)) 61 [(4, .int (nI q)), (3, .int (nI i)), (1, .long e), (0, .ref X.1)] [] (MM m X (kf, vf, lf)) := by
        intro k'
        induction k' with
        | zero =>
          intro q e hq he
          refine e_iload 0 dX6_digest_61 rfl ?_
          refine e_bipush (v := nI 15) dX6_digest_63 (by decide) ?_
          refine e_icmp_geN 89 dX6_digest_65 (by decide) (by omega) (by omega) (fun _ => ?_) (fun h => absurd h (by omega))
          refine e_lload_n 2 dX6_digest_89 rfl ?_
          refine e_ldc2 dX6_digest_90 cs_X6_125 ?_
          refine e_lv (w := lN 31) (by decide) ?_
          refine e_lmul dX6_digest_93 ?_
          refine e_aload_n 3 dX6_digest_94 rfl ?_
          refine e_mv hX dX6_digest_95 fl_X6_14 ?_
          refine e_iload_n 1 dX6_digest_98 rfl ?_
          refine e_vld hX dX6_digest_99 (by omega) ?_
          refine e_ladd dX6_digest_100 ?_
          refine e_lstore_n (lv' := [(1, .long ((e * (lN 31)) + (vf (i)))), (4, .int (nI q)), (3, .int (nI i)), (0, .ref X.1)]) dX6_digest_101 (by decide) rfl ?_
          refine e_ic (nI 0) dX6_digest_102 (by decide) ?_
          refine e_istore (lv' := [(4, .int (nI 0)), (1, .long ((e * (lN 31)) + (vf (i)))), (3, .int (nI i)), (0, .ref X.1)]) dX6_digest_103 (by decide) rfl ?_
          refine e_sub [0, 2, 1, 3] rfl ?_
          exact M (mny kf i) 0 _ (by omega) (by rw [he, show q = 15 by omega]; rfl)
        | succ k' ihA =>
          intro q e hq he
          refine e_iload 0 dX6_digest_61 rfl ?_
          refine e_bipush (v := nI 15) dX6_digest_63 (by decide) ?_
          refine e_icmp_geN 89 dX6_digest_65 (by decide) (by omega) (by omega) (fun h => absurd h (by omega)) (fun _ => ?_)
          refine e_lload_n 2 dX6_digest_68 rfl ?_
          refine e_ldc2 dX6_digest_69 cs_X6_125 ?_
          refine e_lv (w := lN 31) (by decide) ?_
          refine e_lmul dX6_digest_72 ?_
          refine e_aload_n 3 dX6_digest_73 rfl ?_
          refine e_iload_n 1 dX6_digest_74 rfl ?_
          refine e_iload 0 dX6_digest_75 rfl ?_
          refine e_callV (ci := 6) (st := [.long (e * (lN 31))]) (st1 := [.int (abR kf (nI i) (nI q)), .long (e * (lN 31))]) (As := [.int (nI i), .int (nI q)]) (m_about hX hn hn2) dX6_digest_77 (by decide) cm_X6_about lk_X6_204 im_X6_about rfl sel_X6_about hX.1 rfl rfl (Nat.le_of_ble_eq_true rfl) rfl ?_
          refine e_i2l dX6_digest_80 ?_
          refine e_ladd dX6_digest_81 ?_
          refine e_lstore_n (lv' := [(1, .long ((e * (lN 31)) + ((abR kf (nI i) (nI q)).toInt64))), (4, .int (nI q)), (3, .int (nI i)), (0, .ref X.1)]) dX6_digest_82 (by decide) rfl ?_
          refine e_iinc1N (lv' := [(4, .int (nI (q + 1))), (1, .long ((e * (lN 31)) + ((abR kf (nI i) (nI q)).toInt64))), (3, .int (nI i)), (0, .ref X.1)]) 1 dX6_digest_83 rfl (by decide) rfl ?_
          refine e_goto 61 dX6_digest_86 (by decide) ?_
          refine e_sub [0, 2, 1, 3] rfl ?_
          exact ihA (q + 1) _ (by omega) (by rw [he]; rfl)
      refine e_iload_n 0 dX6_digest_48 rfl ?_
      refine e_aload_n 2 dX6_digest_49 rfl ?_
      refine e_mk hX dX6_digest_50 fl_X6_8 ?_
      refine e_ic (nI 1) dX6_digest_53 (by decide) ?_
      refine e_kld hX dX6_digest_54 (by omega) (e_iv (w := nI n) (hn) ?_)
      refine e_icmp_geN 154 dX6_digest_55 (by decide) (by omega) (by omega) (fun h => absurd h (by omega)) (fun _ => ?_)
      refine e_ic (nI 0) dX6_digest_58 (by decide) ?_
      refine e_istore (lv' := [(4, .int (nI 0)), (3, .int (nI i)), (1, .long d), (0, .ref X.1)]) dX6_digest_59 (by decide) rfl ?_
      refine e_sub [0, 1, 2, 3] rfl ?_
      exact A 15 0 d (by omega) rfl
  refine e_lvs (lv' := [(0, .ref X.1)]) rfl ?_
  refine e_ldc2 dX6_digest_0 cs_X6_202 ?_
  refine e_lv (w := lN 7) (by decide) ?_
  refine e_lstore_n (lv' := [(1, .long (lN 7)), (0, .ref X.1)]) dX6_digest_3 (by decide) rfl ?_
  refine e_lload_n 0 dX6_digest_4 rfl ?_
  refine e_ldc2 dX6_digest_5 cs_X6_125 ?_
  refine e_lv (w := lN 31) (by decide) ?_
  refine e_lmul dX6_digest_8 ?_
  refine e_aload_n 1 dX6_digest_9 rfl ?_
  refine e_mk hX dX6_digest_10 fl_X6_8 ?_
  refine e_ic (nI 0) dX6_digest_13 (by decide) ?_
  refine e_kld hX dX6_digest_14 (by omega) ?_
  refine e_i2l dX6_digest_15 ?_
  refine e_ladd dX6_digest_16 ?_
  refine e_lstore_n (lv' := [(1, .long (((lN 7) * (lN 31)) + ((kf (0)).toInt64))), (0, .ref X.1)]) dX6_digest_17 (by decide) rfl ?_
  refine e_lload_n 0 dX6_digest_18 rfl ?_
  refine e_ldc2 dX6_digest_19 cs_X6_125 ?_
  refine e_lv (w := lN 31) (by decide) ?_
  refine e_lmul dX6_digest_22 ?_
  refine e_aload_n 1 dX6_digest_23 rfl ?_
  refine e_mk hX dX6_digest_24 fl_X6_8 ?_
  refine e_ic (nI 1) dX6_digest_27 (by decide) ?_
  refine e_kld hX dX6_digest_28 (by omega) ?_
  refine e_i2l dX6_digest_29 ?_
  refine e_ladd dX6_digest_30 ?_
  refine e_lstore_n (lv' := [(1, .long (((((lN 7) * (lN 31)) + ((kf (0)).toInt64)) * (lN 31)) + ((kf (1)).toInt64))), (0, .ref X.1)]) dX6_digest_31 (by decide) rfl ?_
  refine e_lload_n 0 dX6_digest_32 rfl ?_
  refine e_ldc2 dX6_digest_33 cs_X6_125 ?_
  refine e_lv (w := lN 31) (by decide) ?_
  refine e_lmul dX6_digest_36 ?_
  refine e_aload_n 1 dX6_digest_37 rfl ?_
  refine e_mk hX dX6_digest_38 fl_X6_8 ?_
  refine e_ic (nI 2) dX6_digest_41 (by decide) ?_
  refine e_kld hX dX6_digest_42 (by omega) ?_
  refine e_i2l dX6_digest_43 ?_
  refine e_ladd dX6_digest_44 ?_
  refine e_lstore_n (lv' := [(1, .long (((((((lN 7) * (lN 31)) + ((kf (0)).toInt64)) * (lN 31)) + ((kf (1)).toInt64)) * (lN 31)) + ((kf (2)).toInt64))), (0, .ref X.1)]) dX6_digest_45 (by decide) rfl ?_
  refine e_ic (nI 0) dX6_digest_46 (by decide) ?_
  refine e_istore_n (lv' := [(3, .int (nI 0)), (1, .long (((((((lN 7) * (lN 31)) + ((kf (0)).toInt64)) * (lN 31)) + ((kf (1)).toInt64)) * (lN 31)) + ((kf (2)).toInt64))), (0, .ref X.1)]) dX6_digest_47 (by decide) rfl ?_
  refine e_sub [0, 1, 2] rfl ?_
  exact L2 n 0 _ (by omega) rfl
end Model9
