/-! the law: its loop -/
theorem sumN_le (f : Nat → Nat) (B : Nat) : ∀ n, (∀ i, i < n → f i ≤ B) → sumN f n ≤ n * B := by
  intro n
  induction n with
  | zero => intro _; exact Nat.zero_le _
  | succ n ih =>
    intro h
    have h1 := ih (fun i hi => h i (by omega))
    have h2 := h n (by omega)
    show sumN f n + f n ≤ (n + 1) * B
    rw [Nat.succ_mul]
    omega
theorem pot_le {m : Mem} {Y : YY} (h : KT m Y) : pot Y.2.2.1 ≤ 169784 := by
  have h1 := sumN_le (fun p => Y.2.2.1 (241 + p)) 1992 32 (fun p hp => by
    have := (h.2.2.2.1 p hp).2.2
    unfold LB at this
    show Y.2.2.1 (241 + p) ≤ 1992
    omega)
  have h2 := sumN_le (fun t => Y.2.2.1 (273 + t)) 127 200 (fun t ht => by
    show Y.2.2.1 (273 + t) ≤ 127
    rcases (h.2.2.2.2.1 t ht).2.2 with q | q
    · rw [q.2]
      exact Nat.zero_le _
    · rw [q.2.1]
      exact Nat.le_refl _)
  have h3 := h.2.2.2.2.2
  unfold LC at h3
  unfold pot
  omega
section Law3
variable {G : GG} {F : Nat} {X : XX} {b L : Nat} {xs : Nat → Int32} {z0 n0 : Nat} {m : Mem}
theorem IV.f (h : IV F X b L xs z0 n0 m) : gT m F = 6 ∧ MID X b L xs m := by
  obtain ⟨o, YL, AN, kf, vf, n, s, nf, lf, r, a, hI⟩ := h
  exact ⟨hI.1.1.1.1, rf_mid hI.2.1 hI.2.2.2.2.2.2.1⟩
theorem IV.z (h : IV F X b L xs z0 n0 m) : zz m ≤ z0 + 33992 ∧ nn m ≤ n0 + 833886 := by
  obtain ⟨o, YL, AN, kf, vf, n, s, nf, lf, r, a, ⟨hC, -, -⟩, -, -, hR, hK, -, -, hA, hA'⟩ := h
  have p1 := pot_le hC.2.2.2.1.1
  have p2 := hC.2.2.2.2.1.2.2.2.2.2.1
  have p3 : r ≤ 174210 := by
    rcases hR with q | ⟨YR, q1, q2, q3, q4, q5, q6⟩
    · omega
    · have := pot_le q4
      omega
  have p4 : a ≤ 182052 := by
    rcases hK with q | ⟨YK, AK, nk, sk, nfk, q1, q2, q3, q4⟩
    · omega
    · have t1 := pot_le q1.2.2.2.1.1
      have t2 := q1.2.2.2.2.1.2.2.2.2.2.1
      unfold LT at t2
      omega
  unfold LT at p2
  exact ⟨by omega, by omega⟩

set_option maxRecDepth 100000 in
set_option maxHeartbeats 40000000 in
theorem law_loop (hL : L ≤ 2560) : ∀ (k i : Nat) (m : Mem), L < i + 5 * k + 5 → i ≤ 2560 → IV F X b L xs z0 n0 m → EvR G 12 uL_law z0 n0 (fun r mm => r = some (.int (nI 1)) ∧ zz mm ≤ z0 + 33992 ∧ nn mm ≤ n0 + 833886) 18 [(3, .int (nI i)), (0, .ref b), (1, .ref F), (2, .ref X.1)] [] m := by
  intro k
  induction k with
  | zero =>
    intro i m hi hi2 hI
    obtain ⟨hF, hM⟩ := hI.f
    by_cases h5 : 5 ≤ L
    · skip
      refine r_go (fun kk => e_iload_n 0 dL_law_18 rfl kk) ?_
      refine r_go (fun kk => e_aload_n 1 dL_law_19 rfl kk) ?_
      refine r_go (fun kk => e_alenS (n := nI L) dL_law_20 hM.2.1 (by rw [hM.2.2.1]; rfl) kk) ?_
      refine r_go (fun kk => e_ic (nI 5) dL_law_21 (by decide) kk) ?_
      refine r_go (fun kk => e_isubN dL_law_22 (by omega) kk) ?_
      refine r_go (fun kk => e_icmp_gtN 861 dL_law_23 (by decide) (by omega) (by omega) (fun _ => kk) (fun h => absurd h (by omega))) ?_
      refine r_go (fun kk => e_ic (nI 1) dL_law_861 (by decide) kk) ?_
      exact r_ret ⟨rfl, hI.z⟩ (e_retI dL_law_862 rfl rfl rfl)
    · have hneg : nI L - nI 5 < nI i := by
        rcases (show L = 0 ∨ L = 1 ∨ L = 2 ∨ L = 3 ∨ L = 4 by omega) with rfl | rfl | rfl | rfl | rfl <;> exact Int32.lt_of_lt_of_le (by decide) (nI_pos' (by omega))
      refine r_go (fun kk => e_iload_n 0 dL_law_18 rfl kk) ?_
      refine r_go (fun kk => e_aload_n 1 dL_law_19 rfl kk) ?_
      refine r_go (fun kk => e_alenS (n := nI L) dL_law_20 hM.2.1 (by rw [hM.2.2.1]; rfl) kk) ?_
      refine r_go (fun kk => e_ic (nI 5) dL_law_21 (by decide) kk) ?_
      refine r_go (fun kk => e_isub dL_law_22 kk) ?_
      refine r_go (fun kk => e_icmp_gt 861 dL_law_23 (by decide) (fun _ => kk) (fun h => absurd h (not_not_intro hneg))) ?_
      refine r_go (fun kk => e_ic (nI 1) dL_law_861 (by decide) kk) ?_
      exact r_ret ⟨rfl, hI.z⟩ (e_retI dL_law_862 rfl rfl rfl)
  | succ k ih =>
    intro i m hi hi2 hI
    obtain ⟨hF, hM⟩ := hI.f
    by_cases h5 : 5 ≤ L
    · by_cases hx : i + 5 ≤ L
      · skip
        refine r_go (fun kk => e_iload_n 0 dL_law_18 rfl kk) ?_
        refine r_go (fun kk => e_aload_n 1 dL_law_19 rfl kk) ?_
        refine r_go (fun kk => e_alenS (n := nI L) dL_law_20 hM.2.1 (by rw [hM.2.2.1]; rfl) kk) ?_
        refine r_go (fun kk => e_ic (nI 5) dL_law_21 (by decide) kk) ?_
        refine r_go (fun kk => e_isubN dL_law_22 (by omega) kk) ?_
        refine r_go (fun kk => e_icmp_gtN 861 dL_law_23 (by decide) (by omega) (by omega) (fun h => absurd h (by omega)) (fun _ => kk)) ?_
        refine r_go (fun kk => e_aload_n 1 dL_law_26 rfl kk) ?_
        refine r_go (fun kk => e_iload_n 0 dL_law_27 rfl kk) ?_
        refine r_go (fun kk => e_ialdSN (xs (i)) dL_law_28 hM.2.1 (by rw [hM.2.2.1]; omega) (by rw [hM.2.2.1]; omega) (by rw [hM.2.2.2]) kk) ?_
        refine r_go (fun kk => e_bipush (v := nI 31) dL_law_29 (by decide) kk) ?_
        refine r_go (fun kk => e_iand dL_law_31 kk) ?_
        generalize hop : (xs (i)) &&& (nI 31) = op
        by_cases hsw : inI op (nI 0) (nI 25) = true
        · skip
          obtain ⟨jsw, hsw1, hsw2, rfl⟩ := inI_n (by decide) (by decide) hsw
          rcases (show jsw = 0 ∨ jsw = 1 ∨ jsw = 2 ∨ jsw = 3 ∨ jsw = 4 ∨ jsw = 5 ∨ jsw = 6 ∨ jsw = 7 ∨ jsw = 8 ∨ jsw = 9 ∨ jsw = 10 ∨ jsw = 11 ∨ jsw = 12 ∨ jsw = 13 ∨ jsw = 14 ∨ jsw = 15 ∨ jsw = 16 ∨ jsw = 17 ∨ jsw = 18 ∨ jsw = 19 ∨ jsw = 20 ∨ jsw = 21 ∨ jsw = 22 ∨ jsw = 23 ∨ jsw = 24 ∨ jsw = 25 by omega) with rfl | rfl | rfl | rfl | rfl | rfl | rfl | rfl | rfl | rfl | rfl | rfl | rfl | rfl | rfl | rfl | rfl | rfl | rfl | rfl | rfl | rfl | rfl | rfl | rfl | rfl
          · skip
            refine r_go (fun kk => e_tabIn (off := 120) 152 dL_law_32 (by decide) (by decide) (by decide) (by decide) kk) ?_
            refine r_go (fun kk => e_aload_n 2 dL_law_152 rfl kk) ?_
            refine r_go (fun kk => e_aload_n 1 dL_law_153 rfl kk) ?_
            refine r_go (fun kk => e_iload_n 0 dL_law_154 rfl kk) ?_
            refine r_go (fun kk => e_ic (nI 1) dL_law_155 (by decide) kk) ?_
            refine r_go (fun kk => e_iaddN dL_law_156 kk) ?_
            refine r_go (fun kk => e_ialdSN (xs (i + 1)) dL_law_157 hM.2.1 (by rw [hM.2.2.1]; omega) (by rw [hM.2.2.1]; omega) (by rw [hM.2.2.2]) kk) ?_
            refine r_go (fun kk => e_aload_n 1 dL_law_158 rfl kk) ?_
            refine r_go (fun kk => e_iload_n 0 dL_law_159 rfl kk) ?_
            refine r_go (fun kk => e_ic (nI 2) dL_law_160 (by decide) kk) ?_
            refine r_go (fun kk => e_iaddN dL_law_161 kk) ?_
            refine r_go (fun kk => e_ialdSN (xs (i + 2)) dL_law_162 hM.2.1 (by rw [hM.2.2.1]; omega) (by rw [hM.2.2.1]; omega) (by rw [hM.2.2.2]) kk) ?_
            refine r_go (fun kk => e_i2l dL_law_163 kk) ?_
            refine r_go (fun kk => e_bipush (v := nI 32) dL_law_164 (by decide) kk) ?_
            refine r_go (fun kk => e_lshl dL_law_166 kk) ?_
            refine r_go (fun kk => e_aload_n 1 dL_law_167 rfl kk) ?_
            refine r_go (fun kk => e_iload_n 0 dL_law_168 rfl kk) ?_
            refine r_go (fun kk => e_ic (nI 3) dL_law_169 (by decide) kk) ?_
            refine r_go (fun kk => e_iaddN dL_law_170 kk) ?_
            refine r_go (fun kk => e_ialdSN (xs (i + 3)) dL_law_171 hM.2.1 (by rw [hM.2.2.1]; omega) (by rw [hM.2.2.1]; omega) (by rw [hM.2.2.2]) kk) ?_
            refine r_go (fun kk => e_i2l dL_law_172 kk) ?_
            refine r_go (fun kk => e_ldc2 dL_law_173 cs_L_13 kk) ?_
            refine r_go (fun kk => e_land dL_law_176 kk) ?_
            refine r_go (fun kk => e_lor dL_law_177 kk) ?_
            refine r_go (fun kk => e_aload_n 1 dL_law_178 rfl kk) ?_
            refine r_go (fun kk => e_iload_n 0 dL_law_179 rfl kk) ?_
            refine r_go (fun kk => e_ic (nI 4) dL_law_180 (by decide) kk) ?_
            refine r_go (fun kk => e_iaddN dL_law_181 kk) ?_
            refine r_go (fun kk => e_ialdSN (xs (i + 4)) dL_law_182 hM.2.1 (by rw [hM.2.2.1]; omega) (by rw [hM.2.2.1]; omega) (by rw [hM.2.2.2]) kk) ?_
            obtain ⟨v, m1, m2, E5, E6, hM1, hI2⟩ := l_program (G := G) hI (xs (i + 1)) ((((xs (i + 2)).toInt64) <<< ((nI 32).toInt64 &&& 63)) ||| (((xs (i + 3)).toInt64) &&& 4294967295)) (xs (i + 4))
            refine r_go (fun kk => e_callV (ci := 5) (st := []) (st1 := [.int v]) (As := [.int (xs (i + 1)), .long ((((xs (i + 2)).toInt64) <<< ((nI 32).toInt64 &&& 63)) ||| (((xs (i + 3)).toInt64) &&& 4294967295)), .int (xs (i + 4))]) E5 dL_law_183 (by decide) cm_X5_program lk_L_15 im_X5_program rfl sel_X5_program hF rfl rfl (Nat.le_of_ble_eq_true rfl) rfl kk) ?_
            refine r_go (fun kk => e_aload_n 3 dL_law_186 rfl kk) ?_
            refine r_go (fun kk => e_aload_n 1 dL_law_187 rfl kk) ?_
            refine r_go (fun kk => e_iload_n 0 dL_law_188 rfl kk) ?_
            refine r_go (fun kk => e_ic (nI 1) dL_law_189 (by decide) kk) ?_
            refine r_go (fun kk => e_iaddN dL_law_190 kk) ?_
            refine r_go (fun kk => e_ialdSN (xs (i + 1)) dL_law_191 hM1.2.1 (by rw [hM1.2.2.1]; omega) (by rw [hM1.2.2.1]; omega) (by rw [hM1.2.2.2]) kk) ?_
            refine r_go (fun kk => e_aload_n 1 dL_law_192 rfl kk) ?_
            refine r_go (fun kk => e_iload_n 0 dL_law_193 rfl kk) ?_
            refine r_go (fun kk => e_ic (nI 2) dL_law_194 (by decide) kk) ?_
            refine r_go (fun kk => e_iaddN dL_law_195 kk) ?_
            refine r_go (fun kk => e_ialdSN (xs (i + 2)) dL_law_196 hM1.2.1 (by rw [hM1.2.2.1]; omega) (by rw [hM1.2.2.1]; omega) (by rw [hM1.2.2.2]) kk) ?_
            refine r_go (fun kk => e_i2l dL_law_197 kk) ?_
            refine r_go (fun kk => e_bipush (v := nI 32) dL_law_198 (by decide) kk) ?_
            refine r_go (fun kk => e_lshl dL_law_200 kk) ?_
            refine r_go (fun kk => e_aload_n 1 dL_law_201 rfl kk) ?_
            refine r_go (fun kk => e_iload_n 0 dL_law_202 rfl kk) ?_
            refine r_go (fun kk => e_ic (nI 3) dL_law_203 (by decide) kk) ?_
            refine r_go (fun kk => e_iaddN dL_law_204 kk) ?_
            refine r_go (fun kk => e_ialdSN (xs (i + 3)) dL_law_205 hM1.2.1 (by rw [hM1.2.2.1]; omega) (by rw [hM1.2.2.1]; omega) (by rw [hM1.2.2.2]) kk) ?_
            refine r_go (fun kk => e_i2l dL_law_206 kk) ?_
            refine r_go (fun kk => e_ldc2 dL_law_207 cs_L_13 kk) ?_
            refine r_go (fun kk => e_land dL_law_210 kk) ?_
            refine r_go (fun kk => e_lor dL_law_211 kk) ?_
            refine r_go (fun kk => e_aload_n 1 dL_law_212 rfl kk) ?_
            refine r_go (fun kk => e_iload_n 0 dL_law_213 rfl kk) ?_
            refine r_go (fun kk => e_ic (nI 4) dL_law_214 (by decide) kk) ?_
            refine r_go (fun kk => e_iaddN dL_law_215 kk) ?_
            refine r_go (fun kk => e_ialdSN (xs (i + 4)) dL_law_216 hM1.2.1 (by rw [hM1.2.2.1]; omega) (by rw [hM1.2.2.1]; omega) (by rw [hM1.2.2.2]) kk) ?_
            refine r_go (fun kk => e_callV (ci := 6) (st := [.int v]) (st1 := [.int v, .int v]) (As := [.int (xs (i + 1)), .long ((((xs (i + 2)).toInt64) <<< ((nI 32).toInt64 &&& 63)) ||| (((xs (i + 3)).toInt64) &&& 4294967295)), .int (xs (i + 4))]) E6 dL_law_217 (by decide) cm_X6_program lk_L_19 im_X6_program rfl sel_X6_program hM1.1 rfl rfl (Nat.le_of_ble_eq_true rfl) rfl kk) ?_
            refine r_go (fun kk => e_icmp_eq 855 dL_law_220 (by decide) (fun _ => kk) (fun h => absurd h (not_not_intro rfl))) ?_
            refine r_go (fun kk => e_iinc (v := nI (i + 5)) (lv' := [(3, .int (nI (i + 5))), (0, .ref b), (1, .ref F), (2, .ref X.1)]) 0 dL_law_855 rfl (nI_add _ _) (by decide) rfl kk) ?_
            refine r_go (fun kk => e_goto 18 dL_law_858 (by decide) kk) ?_
            refine r_go (fun kk => e_sub [0, 1, 2, 3] rfl kk) ?_
            exact ih (i + 5) m2 (by omega) (by omega) hI2
          · skip
            refine r_go (fun kk => e_tabIn (off := 193) 225 dL_law_32 (by decide) (by decide) (by decide) (by decide) kk) ?_
            refine r_go (fun kk => e_aload_n 2 dL_law_225 rfl kk) ?_
            refine r_go (fun kk => e_aload_n 1 dL_law_226 rfl kk) ?_
            refine r_go (fun kk => e_iload_n 0 dL_law_227 rfl kk) ?_
            refine r_go (fun kk => e_ic (nI 1) dL_law_228 (by decide) kk) ?_
            refine r_go (fun kk => e_iaddN dL_law_229 kk) ?_
            refine r_go (fun kk => e_ialdSN (xs (i + 1)) dL_law_230 hM.2.1 (by rw [hM.2.2.1]; omega) (by rw [hM.2.2.1]; omega) (by rw [hM.2.2.2]) kk) ?_
            refine r_go (fun kk => e_aload_n 1 dL_law_231 rfl kk) ?_
            refine r_go (fun kk => e_iload_n 0 dL_law_232 rfl kk) ?_
            refine r_go (fun kk => e_ic (nI 2) dL_law_233 (by decide) kk) ?_
            refine r_go (fun kk => e_iaddN dL_law_234 kk) ?_
            refine r_go (fun kk => e_ialdSN (xs (i + 2)) dL_law_235 hM.2.1 (by rw [hM.2.2.1]; omega) (by rw [hM.2.2.1]; omega) (by rw [hM.2.2.2]) kk) ?_
            refine r_go (fun kk => e_aload_n 1 dL_law_236 rfl kk) ?_
            refine r_go (fun kk => e_iload_n 0 dL_law_237 rfl kk) ?_
            refine r_go (fun kk => e_ic (nI 3) dL_law_238 (by decide) kk) ?_
            refine r_go (fun kk => e_iaddN dL_law_239 kk) ?_
            refine r_go (fun kk => e_ialdSN (xs (i + 3)) dL_law_240 hM.2.1 (by rw [hM.2.2.1]; omega) (by rw [hM.2.2.1]; omega) (by rw [hM.2.2.2]) kk) ?_
            obtain ⟨v, m1, m2, E5, E6, hM1, hI2⟩ := l_task (G := G) hI (xs (i + 1)) (xs (i + 2)) (xs (i + 3))
            refine r_go (fun kk => e_callV (ci := 5) (st := []) (st1 := [.int v]) (As := [.int (xs (i + 1)), .int (xs (i + 2)), .int (xs (i + 3))]) E5 dL_law_241 (by decide) cm_X5_task lk_L_20 im_X5_task rfl sel_X5_task hF rfl rfl (Nat.le_of_ble_eq_true rfl) rfl kk) ?_
            refine r_go (fun kk => e_aload_n 3 dL_law_244 rfl kk) ?_
            refine r_go (fun kk => e_aload_n 1 dL_law_245 rfl kk) ?_
            refine r_go (fun kk => e_iload_n 0 dL_law_246 rfl kk) ?_
            refine r_go (fun kk => e_ic (nI 1) dL_law_247 (by decide) kk) ?_
            refine r_go (fun kk => e_iaddN dL_law_248 kk) ?_
            refine r_go (fun kk => e_ialdSN (xs (i + 1)) dL_law_249 hM1.2.1 (by rw [hM1.2.2.1]; omega) (by rw [hM1.2.2.1]; omega) (by rw [hM1.2.2.2]) kk) ?_
            refine r_go (fun kk => e_aload_n 1 dL_law_250 rfl kk) ?_
            refine r_go (fun kk => e_iload_n 0 dL_law_251 rfl kk) ?_
            refine r_go (fun kk => e_ic (nI 2) dL_law_252 (by decide) kk) ?_
            refine r_go (fun kk => e_iaddN dL_law_253 kk) ?_
            refine r_go (fun kk => e_ialdSN (xs (i + 2)) dL_law_254 hM1.2.1 (by rw [hM1.2.2.1]; omega) (by rw [hM1.2.2.1]; omega) (by rw [hM1.2.2.2]) kk) ?_
            refine r_go (fun kk => e_aload_n 1 dL_law_255 rfl kk) ?_
            refine r_go (fun kk => e_iload_n 0 dL_law_256 rfl kk) ?_
            refine r_go (fun kk => e_ic (nI 3) dL_law_257 (by decide) kk) ?_
            refine r_go (fun kk => e_iaddN dL_law_258 kk) ?_
            refine r_go (fun kk => e_ialdSN (xs (i + 3)) dL_law_259 hM1.2.1 (by rw [hM1.2.2.1]; omega) (by rw [hM1.2.2.1]; omega) (by rw [hM1.2.2.2]) kk) ?_
            refine r_go (fun kk => e_callV (ci := 6) (st := [.int v]) (st1 := [.int v, .int v]) (As := [.int (xs (i + 1)), .int (xs (i + 2)), .int (xs (i + 3))]) E6 dL_law_260 (by decide) cm_X6_task lk_L_24 im_X6_task rfl sel_X6_task hM1.1 rfl rfl (Nat.le_of_ble_eq_true rfl) rfl kk) ?_
            refine r_go (fun kk => e_icmp_eq 855 dL_law_263 (by decide) (fun _ => kk) (fun h => absurd h (not_not_intro rfl))) ?_
            refine r_go (fun kk => e_iinc (v := nI (i + 5)) (lv' := [(3, .int (nI (i + 5))), (0, .ref b), (1, .ref F), (2, .ref X.1)]) 0 dL_law_855 rfl (nI_add _ _) (by decide) rfl kk) ?_
            refine r_go (fun kk => e_goto 18 dL_law_858 (by decide) kk) ?_
            refine r_go (fun kk => e_sub [0, 1, 2, 3] rfl kk) ?_
            exact ih (i + 5) m2 (by omega) (by omega) hI2
          · skip
            refine r_go (fun kk => e_tabIn (off := 236) 268 dL_law_32 (by decide) (by decide) (by decide) (by decide) kk) ?_
            refine r_go (fun kk => e_aload_n 2 dL_law_268 rfl kk) ?_
            refine r_go (fun kk => e_aload_n 1 dL_law_269 rfl kk) ?_
            refine r_go (fun kk => e_iload_n 0 dL_law_270 rfl kk) ?_
            refine r_go (fun kk => e_ic (nI 1) dL_law_271 (by decide) kk) ?_
            refine r_go (fun kk => e_iaddN dL_law_272 kk) ?_
            refine r_go (fun kk => e_ialdSN (xs (i + 1)) dL_law_273 hM.2.1 (by rw [hM.2.2.1]; omega) (by rw [hM.2.2.1]; omega) (by rw [hM.2.2.2]) kk) ?_
            refine r_go (fun kk => e_aload_n 1 dL_law_274 rfl kk) ?_
            refine r_go (fun kk => e_iload_n 0 dL_law_275 rfl kk) ?_
            refine r_go (fun kk => e_ic (nI 2) dL_law_276 (by decide) kk) ?_
            refine r_go (fun kk => e_iaddN dL_law_277 kk) ?_
            refine r_go (fun kk => e_ialdSN (xs (i + 2)) dL_law_278 hM.2.1 (by rw [hM.2.2.1]; omega) (by rw [hM.2.2.1]; omega) (by rw [hM.2.2.2]) kk) ?_
            obtain ⟨v, m1, m2, E5, E6, hM1, hI2⟩ := l_share (G := G) hI (xs (i + 1)) (xs (i + 2))
            refine r_go (fun kk => e_callV (ci := 5) (st := []) (st1 := [.int v]) (As := [.int (xs (i + 1)), .int (xs (i + 2))]) E5 dL_law_279 (by decide) cm_X5_share lk_L_25 im_X5_share rfl sel_X5_share hF rfl rfl (Nat.le_of_ble_eq_true rfl) rfl kk) ?_
            refine r_go (fun kk => e_aload_n 3 dL_law_282 rfl kk) ?_
            refine r_go (fun kk => e_aload_n 1 dL_law_283 rfl kk) ?_
            refine r_go (fun kk => e_iload_n 0 dL_law_284 rfl kk) ?_
            refine r_go (fun kk => e_ic (nI 1) dL_law_285 (by decide) kk) ?_
            refine r_go (fun kk => e_iaddN dL_law_286 kk) ?_
            refine r_go (fun kk => e_ialdSN (xs (i + 1)) dL_law_287 hM1.2.1 (by rw [hM1.2.2.1]; omega) (by rw [hM1.2.2.1]; omega) (by rw [hM1.2.2.2]) kk) ?_
            refine r_go (fun kk => e_aload_n 1 dL_law_288 rfl kk) ?_
            refine r_go (fun kk => e_iload_n 0 dL_law_289 rfl kk) ?_
            refine r_go (fun kk => e_ic (nI 2) dL_law_290 (by decide) kk) ?_
            refine r_go (fun kk => e_iaddN dL_law_291 kk) ?_
            refine r_go (fun kk => e_ialdSN (xs (i + 2)) dL_law_292 hM1.2.1 (by rw [hM1.2.2.1]; omega) (by rw [hM1.2.2.1]; omega) (by rw [hM1.2.2.2]) kk) ?_
            refine r_go (fun kk => e_callV (ci := 6) (st := [.int v]) (st1 := [.int v, .int v]) (As := [.int (xs (i + 1)), .int (xs (i + 2))]) E6 dL_law_293 (by decide) cm_X6_share lk_L_29 im_X6_share rfl sel_X6_share hM1.1 rfl rfl (Nat.le_of_ble_eq_true rfl) rfl kk) ?_
            refine r_go (fun kk => e_icmp_eq 855 dL_law_296 (by decide) (fun _ => kk) (fun h => absurd h (not_not_intro rfl))) ?_
            refine r_go (fun kk => e_iinc (v := nI (i + 5)) (lv' := [(3, .int (nI (i + 5))), (0, .ref b), (1, .ref F), (2, .ref X.1)]) 0 dL_law_855 rfl (nI_add _ _) (by decide) rfl kk) ?_
            refine r_go (fun kk => e_goto 18 dL_law_858 (by decide) kk) ?_
            refine r_go (fun kk => e_sub [0, 1, 2, 3] rfl kk) ?_
            exact ih (i + 5) m2 (by omega) (by omega) hI2
          · skip
            refine r_go (fun kk => e_tabIn (off := 269) 301 dL_law_32 (by decide) (by decide) (by decide) (by decide) kk) ?_
            refine r_go (fun kk => e_aload_n 2 dL_law_301 rfl kk) ?_
            refine r_go (fun kk => e_aload_n 1 dL_law_302 rfl kk) ?_
            refine r_go (fun kk => e_iload_n 0 dL_law_303 rfl kk) ?_
            refine r_go (fun kk => e_ic (nI 1) dL_law_304 (by decide) kk) ?_
            refine r_go (fun kk => e_iaddN dL_law_305 kk) ?_
            refine r_go (fun kk => e_ialdSN (xs (i + 1)) dL_law_306 hM.2.1 (by rw [hM.2.2.1]; omega) (by rw [hM.2.2.1]; omega) (by rw [hM.2.2.2]) kk) ?_
            refine r_go (fun kk => e_aload_n 1 dL_law_307 rfl kk) ?_
            refine r_go (fun kk => e_iload_n 0 dL_law_308 rfl kk) ?_
            refine r_go (fun kk => e_ic (nI 2) dL_law_309 (by decide) kk) ?_
            refine r_go (fun kk => e_iaddN dL_law_310 kk) ?_
            refine r_go (fun kk => e_ialdSN (xs (i + 2)) dL_law_311 hM.2.1 (by rw [hM.2.2.1]; omega) (by rw [hM.2.2.1]; omega) (by rw [hM.2.2.2]) kk) ?_
            refine r_go (fun kk => e_aload_n 1 dL_law_312 rfl kk) ?_
            refine r_go (fun kk => e_iload_n 0 dL_law_313 rfl kk) ?_
            refine r_go (fun kk => e_ic (nI 3) dL_law_314 (by decide) kk) ?_
            refine r_go (fun kk => e_iaddN dL_law_315 kk) ?_
            refine r_go (fun kk => e_ialdSN (xs (i + 3)) dL_law_316 hM.2.1 (by rw [hM.2.2.1]; omega) (by rw [hM.2.2.1]; omega) (by rw [hM.2.2.2]) kk) ?_
            obtain ⟨v, m1, m2, E5, E6, hM1, hI2⟩ := l_deadline (G := G) hI (xs (i + 1)) (xs (i + 2)) (xs (i + 3))
            refine r_go (fun kk => e_callV (ci := 5) (st := []) (st1 := [.int v]) (As := [.int (xs (i + 1)), .int (xs (i + 2)), .int (xs (i + 3))]) E5 dL_law_317 (by decide) cm_X5_deadline lk_L_30 im_X5_deadline rfl sel_X5_deadline hF rfl rfl (Nat.le_of_ble_eq_true rfl) rfl kk) ?_
            refine r_go (fun kk => e_aload_n 3 dL_law_320 rfl kk) ?_
            refine r_go (fun kk => e_aload_n 1 dL_law_321 rfl kk) ?_
            refine r_go (fun kk => e_iload_n 0 dL_law_322 rfl kk) ?_
            refine r_go (fun kk => e_ic (nI 1) dL_law_323 (by decide) kk) ?_
            refine r_go (fun kk => e_iaddN dL_law_324 kk) ?_
            refine r_go (fun kk => e_ialdSN (xs (i + 1)) dL_law_325 hM1.2.1 (by rw [hM1.2.2.1]; omega) (by rw [hM1.2.2.1]; omega) (by rw [hM1.2.2.2]) kk) ?_
            refine r_go (fun kk => e_aload_n 1 dL_law_326 rfl kk) ?_
            refine r_go (fun kk => e_iload_n 0 dL_law_327 rfl kk) ?_
            refine r_go (fun kk => e_ic (nI 2) dL_law_328 (by decide) kk) ?_
            refine r_go (fun kk => e_iaddN dL_law_329 kk) ?_
            refine r_go (fun kk => e_ialdSN (xs (i + 2)) dL_law_330 hM1.2.1 (by rw [hM1.2.2.1]; omega) (by rw [hM1.2.2.1]; omega) (by rw [hM1.2.2.2]) kk) ?_
            refine r_go (fun kk => e_aload_n 1 dL_law_331 rfl kk) ?_
            refine r_go (fun kk => e_iload_n 0 dL_law_332 rfl kk) ?_
            refine r_go (fun kk => e_ic (nI 3) dL_law_333 (by decide) kk) ?_
            refine r_go (fun kk => e_iaddN dL_law_334 kk) ?_
            refine r_go (fun kk => e_ialdSN (xs (i + 3)) dL_law_335 hM1.2.1 (by rw [hM1.2.2.1]; omega) (by rw [hM1.2.2.1]; omega) (by rw [hM1.2.2.2]) kk) ?_
            refine r_go (fun kk => e_callV (ci := 6) (st := [.int v]) (st1 := [.int v, .int v]) (As := [.int (xs (i + 1)), .int (xs (i + 2)), .int (xs (i + 3))]) E6 dL_law_336 (by decide) cm_X6_deadline lk_L_34 im_X6_deadline rfl sel_X6_deadline hM1.1 rfl rfl (Nat.le_of_ble_eq_true rfl) rfl kk) ?_
            refine r_go (fun kk => e_icmp_eq 855 dL_law_339 (by decide) (fun _ => kk) (fun h => absurd h (not_not_intro rfl))) ?_
            refine r_go (fun kk => e_iinc (v := nI (i + 5)) (lv' := [(3, .int (nI (i + 5))), (0, .ref b), (1, .ref F), (2, .ref X.1)]) 0 dL_law_855 rfl (nI_add _ _) (by decide) rfl kk) ?_
            refine r_go (fun kk => e_goto 18 dL_law_858 (by decide) kk) ?_
            refine r_go (fun kk => e_sub [0, 1, 2, 3] rfl kk) ?_
            exact ih (i + 5) m2 (by omega) (by omega) hI2
          · skip
            refine r_go (fun kk => e_tabIn (off := 312) 344 dL_law_32 (by decide) (by decide) (by decide) (by decide) kk) ?_
            refine r_go (fun kk => e_aload_n 2 dL_law_344 rfl kk) ?_
            refine r_go (fun kk => e_aload_n 1 dL_law_345 rfl kk) ?_
            refine r_go (fun kk => e_iload_n 0 dL_law_346 rfl kk) ?_
            refine r_go (fun kk => e_ic (nI 1) dL_law_347 (by decide) kk) ?_
            refine r_go (fun kk => e_iaddN dL_law_348 kk) ?_
            refine r_go (fun kk => e_ialdSN (xs (i + 1)) dL_law_349 hM.2.1 (by rw [hM.2.2.1]; omega) (by rw [hM.2.2.1]; omega) (by rw [hM.2.2.2]) kk) ?_
            obtain ⟨v, m1, m2, E5, E6, hM1, hI2⟩ := l_processors (G := G) hI (xs (i + 1))
            refine r_go (fun kk => e_callV (ci := 5) (st := []) (st1 := [.int v]) (As := [.int (xs (i + 1))]) E5 dL_law_350 (by decide) cm_X5_processors lk_L_35 im_X5_processors rfl sel_X5_processors hF rfl rfl (Nat.le_of_ble_eq_true rfl) rfl kk) ?_
            refine r_go (fun kk => e_aload_n 3 dL_law_353 rfl kk) ?_
            refine r_go (fun kk => e_aload_n 1 dL_law_354 rfl kk) ?_
            refine r_go (fun kk => e_iload_n 0 dL_law_355 rfl kk) ?_
            refine r_go (fun kk => e_ic (nI 1) dL_law_356 (by decide) kk) ?_
            refine r_go (fun kk => e_iaddN dL_law_357 kk) ?_
            refine r_go (fun kk => e_ialdSN (xs (i + 1)) dL_law_358 hM1.2.1 (by rw [hM1.2.2.1]; omega) (by rw [hM1.2.2.1]; omega) (by rw [hM1.2.2.2]) kk) ?_
            refine r_go (fun kk => e_callV (ci := 6) (st := [.int v]) (st1 := [.int v, .int v]) (As := [.int (xs (i + 1))]) E6 dL_law_359 (by decide) cm_X6_processors lk_L_39 im_X6_processors rfl sel_X6_processors hM1.1 rfl rfl (Nat.le_of_ble_eq_true rfl) rfl kk) ?_
            refine r_go (fun kk => e_icmp_eq 855 dL_law_362 (by decide) (fun _ => kk) (fun h => absurd h (not_not_intro rfl))) ?_
            refine r_go (fun kk => e_iinc (v := nI (i + 5)) (lv' := [(3, .int (nI (i + 5))), (0, .ref b), (1, .ref F), (2, .ref X.1)]) 0 dL_law_855 rfl (nI_add _ _) (by decide) rfl kk) ?_
            refine r_go (fun kk => e_goto 18 dL_law_858 (by decide) kk) ?_
            refine r_go (fun kk => e_sub [0, 1, 2, 3] rfl kk) ?_
            exact ih (i + 5) m2 (by omega) (by omega) hI2
          · skip
            refine r_go (fun kk => e_tabIn (off := 335) 367 dL_law_32 (by decide) (by decide) (by decide) (by decide) kk) ?_
            refine r_go (fun kk => e_aload_n 2 dL_law_367 rfl kk) ?_
            refine r_go (fun kk => e_aload_n 1 dL_law_368 rfl kk) ?_
            refine r_go (fun kk => e_iload_n 0 dL_law_369 rfl kk) ?_
            refine r_go (fun kk => e_ic (nI 1) dL_law_370 (by decide) kk) ?_
            refine r_go (fun kk => e_iaddN dL_law_371 kk) ?_
            refine r_go (fun kk => e_ialdSN (xs (i + 1)) dL_law_372 hM.2.1 (by rw [hM.2.2.1]; omega) (by rw [hM.2.2.1]; omega) (by rw [hM.2.2.2]) kk) ?_
            obtain ⟨v, m1, m2, E5, E6, hM1, hI2⟩ := l_lock (G := G) hI (xs (i + 1))
            refine r_go (fun kk => e_callV (ci := 5) (st := []) (st1 := [.int v]) (As := [.int (xs (i + 1))]) E5 dL_law_373 (by decide) cm_X5_lock lk_L_40 im_X5_lock rfl sel_X5_lock hF rfl rfl (Nat.le_of_ble_eq_true rfl) rfl kk) ?_
            refine r_go (fun kk => e_aload_n 3 dL_law_376 rfl kk) ?_
            refine r_go (fun kk => e_aload_n 1 dL_law_377 rfl kk) ?_
            refine r_go (fun kk => e_iload_n 0 dL_law_378 rfl kk) ?_
            refine r_go (fun kk => e_ic (nI 1) dL_law_379 (by decide) kk) ?_
            refine r_go (fun kk => e_iaddN dL_law_380 kk) ?_
            refine r_go (fun kk => e_ialdSN (xs (i + 1)) dL_law_381 hM1.2.1 (by rw [hM1.2.2.1]; omega) (by rw [hM1.2.2.1]; omega) (by rw [hM1.2.2.2]) kk) ?_
            refine r_go (fun kk => e_callV (ci := 6) (st := [.int v]) (st1 := [.int v, .int v]) (As := [.int (xs (i + 1))]) E6 dL_law_382 (by decide) cm_X6_lock lk_L_44 im_X6_lock rfl sel_X6_lock hM1.1 rfl rfl (Nat.le_of_ble_eq_true rfl) rfl kk) ?_
            refine r_go (fun kk => e_icmp_eq 855 dL_law_385 (by decide) (fun _ => kk) (fun h => absurd h (not_not_intro rfl))) ?_
            refine r_go (fun kk => e_iinc (v := nI (i + 5)) (lv' := [(3, .int (nI (i + 5))), (0, .ref b), (1, .ref F), (2, .ref X.1)]) 0 dL_law_855 rfl (nI_add _ _) (by decide) rfl kk) ?_
            refine r_go (fun kk => e_goto 18 dL_law_858 (by decide) kk) ?_
            refine r_go (fun kk => e_sub [0, 1, 2, 3] rfl kk) ?_
            exact ih (i + 5) m2 (by omega) (by omega) hI2
          · skip
            refine r_go (fun kk => e_tabIn (off := 358) 390 dL_law_32 (by decide) (by decide) (by decide) (by decide) kk) ?_
            refine r_go (fun kk => e_aload_n 2 dL_law_390 rfl kk) ?_
            refine r_go (fun kk => e_aload_n 1 dL_law_391 rfl kk) ?_
            refine r_go (fun kk => e_iload_n 0 dL_law_392 rfl kk) ?_
            refine r_go (fun kk => e_ic (nI 1) dL_law_393 (by decide) kk) ?_
            refine r_go (fun kk => e_iaddN dL_law_394 kk) ?_
            refine r_go (fun kk => e_ialdSN (xs (i + 1)) dL_law_395 hM.2.1 (by rw [hM.2.2.1]; omega) (by rw [hM.2.2.1]; omega) (by rw [hM.2.2.2]) kk) ?_
            obtain ⟨v, m1, m2, E5, E6, hM1, hI2⟩ := l_ring (G := G) hI (xs (i + 1))
            refine r_go (fun kk => e_callV (ci := 5) (st := []) (st1 := [.int v]) (As := [.int (xs (i + 1))]) E5 dL_law_396 (by decide) cm_X5_ring lk_L_45 im_X5_ring rfl sel_X5_ring hF rfl rfl (Nat.le_of_ble_eq_true rfl) rfl kk) ?_
            refine r_go (fun kk => e_aload_n 3 dL_law_399 rfl kk) ?_
            refine r_go (fun kk => e_aload_n 1 dL_law_400 rfl kk) ?_
            refine r_go (fun kk => e_iload_n 0 dL_law_401 rfl kk) ?_
            refine r_go (fun kk => e_ic (nI 1) dL_law_402 (by decide) kk) ?_
            refine r_go (fun kk => e_iaddN dL_law_403 kk) ?_
            refine r_go (fun kk => e_ialdSN (xs (i + 1)) dL_law_404 hM1.2.1 (by rw [hM1.2.2.1]; omega) (by rw [hM1.2.2.1]; omega) (by rw [hM1.2.2.2]) kk) ?_
            refine r_go (fun kk => e_callV (ci := 6) (st := [.int v]) (st1 := [.int v, .int v]) (As := [.int (xs (i + 1))]) E6 dL_law_405 (by decide) cm_X6_ring lk_L_48 im_X6_ring rfl sel_X6_ring hM1.1 rfl rfl (Nat.le_of_ble_eq_true rfl) rfl kk) ?_
            refine r_go (fun kk => e_icmp_eq 855 dL_law_408 (by decide) (fun _ => kk) (fun h => absurd h (not_not_intro rfl))) ?_
            refine r_go (fun kk => e_iinc (v := nI (i + 5)) (lv' := [(3, .int (nI (i + 5))), (0, .ref b), (1, .ref F), (2, .ref X.1)]) 0 dL_law_855 rfl (nI_add _ _) (by decide) rfl kk) ?_
            refine r_go (fun kk => e_goto 18 dL_law_858 (by decide) kk) ?_
            refine r_go (fun kk => e_sub [0, 1, 2, 3] rfl kk) ?_
            exact ih (i + 5) m2 (by omega) (by omega) hI2
          · skip
            refine r_go (fun kk => e_tabIn (off := 381) 413 dL_law_32 (by decide) (by decide) (by decide) (by decide) kk) ?_
            refine r_go (fun kk => e_aload_n 2 dL_law_413 rfl kk) ?_
            refine r_go (fun kk => e_aload_n 1 dL_law_414 rfl kk) ?_
            refine r_go (fun kk => e_iload_n 0 dL_law_415 rfl kk) ?_
            refine r_go (fun kk => e_ic (nI 1) dL_law_416 (by decide) kk) ?_
            refine r_go (fun kk => e_iaddN dL_law_417 kk) ?_
            refine r_go (fun kk => e_ialdSN (xs (i + 1)) dL_law_418 hM.2.1 (by rw [hM.2.2.1]; omega) (by rw [hM.2.2.1]; omega) (by rw [hM.2.2.2]) kk) ?_
            obtain ⟨v, m1, m2, E5, E6, hM1, hI2⟩ := l_run (G := G) hI (xs (i + 1))
            refine r_go (fun kk => e_callV (ci := 5) (st := []) (st1 := [.int v]) (As := [.int (xs (i + 1))]) E5 dL_law_419 (by decide) cm_X5_run lk_L_49 im_X5_run rfl sel_X5_run hF rfl rfl (Nat.le_of_ble_eq_true rfl) rfl kk) ?_
            refine r_go (fun kk => e_aload_n 3 dL_law_422 rfl kk) ?_
            refine r_go (fun kk => e_aload_n 1 dL_law_423 rfl kk) ?_
            refine r_go (fun kk => e_iload_n 0 dL_law_424 rfl kk) ?_
            refine r_go (fun kk => e_ic (nI 1) dL_law_425 (by decide) kk) ?_
            refine r_go (fun kk => e_iaddN dL_law_426 kk) ?_
            refine r_go (fun kk => e_ialdSN (xs (i + 1)) dL_law_427 hM1.2.1 (by rw [hM1.2.2.1]; omega) (by rw [hM1.2.2.1]; omega) (by rw [hM1.2.2.2]) kk) ?_
            refine r_go (fun kk => e_callV (ci := 6) (st := [.int v]) (st1 := [.int v, .int v]) (As := [.int (xs (i + 1))]) E6 dL_law_428 (by decide) cm_X6_run lk_L_52 im_X6_run rfl sel_X6_run hM1.1 rfl rfl (Nat.le_of_ble_eq_true rfl) rfl kk) ?_
            refine r_go (fun kk => e_icmp_eq 855 dL_law_431 (by decide) (fun _ => kk) (fun h => absurd h (not_not_intro rfl))) ?_
            refine r_go (fun kk => e_iinc (v := nI (i + 5)) (lv' := [(3, .int (nI (i + 5))), (0, .ref b), (1, .ref F), (2, .ref X.1)]) 0 dL_law_855 rfl (nI_add _ _) (by decide) rfl kk) ?_
            refine r_go (fun kk => e_goto 18 dL_law_858 (by decide) kk) ?_
            refine r_go (fun kk => e_sub [0, 1, 2, 3] rfl kk) ?_
            exact ih (i + 5) m2 (by omega) (by omega) hI2
          · skip
            refine r_go (fun kk => e_tabIn (off := 404) 436 dL_law_32 (by decide) (by decide) (by decide) (by decide) kk) ?_
            refine r_go (fun kk => e_aload_n 2 dL_law_436 rfl kk) ?_
            refine r_go (fun kk => e_aload_n 1 dL_law_437 rfl kk) ?_
            refine r_go (fun kk => e_iload_n 0 dL_law_438 rfl kk) ?_
            refine r_go (fun kk => e_ic (nI 1) dL_law_439 (by decide) kk) ?_
            refine r_go (fun kk => e_iaddN dL_law_440 kk) ?_
            refine r_go (fun kk => e_ialdSN (xs (i + 1)) dL_law_441 hM.2.1 (by rw [hM.2.2.1]; omega) (by rw [hM.2.2.1]; omega) (by rw [hM.2.2.2]) kk) ?_
            obtain ⟨v, m1, m2, E5, E6, hM1, hI2⟩ := l_chosen (G := G) hI (xs (i + 1))
            refine r_go (fun kk => e_callV (ci := 5) (st := []) (st1 := [.int v]) (As := [.int (xs (i + 1))]) E5 dL_law_442 (by decide) cm_X5_chosen lk_L_53 im_X5_chosen rfl sel_X5_chosen hF rfl rfl (Nat.le_of_ble_eq_true rfl) rfl kk) ?_
            refine r_go (fun kk => e_aload_n 3 dL_law_445 rfl kk) ?_
            refine r_go (fun kk => e_aload_n 1 dL_law_446 rfl kk) ?_
            refine r_go (fun kk => e_iload_n 0 dL_law_447 rfl kk) ?_
            refine r_go (fun kk => e_ic (nI 1) dL_law_448 (by decide) kk) ?_
            refine r_go (fun kk => e_iaddN dL_law_449 kk) ?_
            refine r_go (fun kk => e_ialdSN (xs (i + 1)) dL_law_450 hM1.2.1 (by rw [hM1.2.2.1]; omega) (by rw [hM1.2.2.1]; omega) (by rw [hM1.2.2.2]) kk) ?_
            refine r_go (fun kk => e_callV (ci := 6) (st := [.int v]) (st1 := [.int v, .int v]) (As := [.int (xs (i + 1))]) E6 dL_law_451 (by decide) cm_X6_chosen lk_L_56 im_X6_chosen rfl sel_X6_chosen hM1.1 rfl rfl (Nat.le_of_ble_eq_true rfl) rfl kk) ?_
            refine r_go (fun kk => e_icmp_eq 855 dL_law_454 (by decide) (fun _ => kk) (fun h => absurd h (not_not_intro rfl))) ?_
            refine r_go (fun kk => e_iinc (v := nI (i + 5)) (lv' := [(3, .int (nI (i + 5))), (0, .ref b), (1, .ref F), (2, .ref X.1)]) 0 dL_law_855 rfl (nI_add _ _) (by decide) rfl kk) ?_
            refine r_go (fun kk => e_goto 18 dL_law_858 (by decide) kk) ?_
            refine r_go (fun kk => e_sub [0, 1, 2, 3] rfl kk) ?_
            exact ih (i + 5) m2 (by omega) (by omega) hI2
          · skip
            refine r_go (fun kk => e_tabIn (off := 427) 459 dL_law_32 (by decide) (by decide) (by decide) (by decide) kk) ?_
            refine r_go (fun kk => e_aload_n 2 dL_law_459 rfl kk) ?_
            refine r_go (fun kk => e_aload_n 1 dL_law_460 rfl kk) ?_
            refine r_go (fun kk => e_iload_n 0 dL_law_461 rfl kk) ?_
            refine r_go (fun kk => e_ic (nI 1) dL_law_462 (by decide) kk) ?_
            refine r_go (fun kk => e_iaddN dL_law_463 kk) ?_
            refine r_go (fun kk => e_ialdSN (xs (i + 1)) dL_law_464 hM.2.1 (by rw [hM.2.2.1]; omega) (by rw [hM.2.2.1]; omega) (by rw [hM.2.2.2]) kk) ?_
            refine r_go (fun kk => e_aload_n 1 dL_law_465 rfl kk) ?_
            refine r_go (fun kk => e_iload_n 0 dL_law_466 rfl kk) ?_
            refine r_go (fun kk => e_ic (nI 2) dL_law_467 (by decide) kk) ?_
            refine r_go (fun kk => e_iaddN dL_law_468 kk) ?_
            refine r_go (fun kk => e_ialdSN (xs (i + 2)) dL_law_469 hM.2.1 (by rw [hM.2.2.1]; omega) (by rw [hM.2.2.1]; omega) (by rw [hM.2.2.2]) kk) ?_
            obtain ⟨v, m1, m2, E5, E6, hM1, hI2⟩ := l_about (G := G) hI (xs (i + 1)) (xs (i + 2))
            refine r_go (fun kk => e_callV (ci := 5) (st := []) (st1 := [.int v]) (As := [.int (xs (i + 1)), .int (xs (i + 2))]) E5 dL_law_470 (by decide) cm_X5_about lk_L_57 im_X5_about rfl sel_X5_about hF rfl rfl (Nat.le_of_ble_eq_true rfl) rfl kk) ?_
            refine r_go (fun kk => e_aload_n 3 dL_law_473 rfl kk) ?_
            refine r_go (fun kk => e_aload_n 1 dL_law_474 rfl kk) ?_
            refine r_go (fun kk => e_iload_n 0 dL_law_475 rfl kk) ?_
            refine r_go (fun kk => e_ic (nI 1) dL_law_476 (by decide) kk) ?_
            refine r_go (fun kk => e_iaddN dL_law_477 kk) ?_
            refine r_go (fun kk => e_ialdSN (xs (i + 1)) dL_law_478 hM1.2.1 (by rw [hM1.2.2.1]; omega) (by rw [hM1.2.2.1]; omega) (by rw [hM1.2.2.2]) kk) ?_
            refine r_go (fun kk => e_aload_n 1 dL_law_479 rfl kk) ?_
            refine r_go (fun kk => e_iload_n 0 dL_law_480 rfl kk) ?_
            refine r_go (fun kk => e_ic (nI 2) dL_law_481 (by decide) kk) ?_
            refine r_go (fun kk => e_iaddN dL_law_482 kk) ?_
            refine r_go (fun kk => e_ialdSN (xs (i + 2)) dL_law_483 hM1.2.1 (by rw [hM1.2.2.1]; omega) (by rw [hM1.2.2.1]; omega) (by rw [hM1.2.2.2]) kk) ?_
            refine r_go (fun kk => e_callV (ci := 6) (st := [.int v]) (st1 := [.int v, .int v]) (As := [.int (xs (i + 1)), .int (xs (i + 2))]) E6 dL_law_484 (by decide) cm_X6_about lk_L_60 im_X6_about rfl sel_X6_about hM1.1 rfl rfl (Nat.le_of_ble_eq_true rfl) rfl kk) ?_
            refine r_go (fun kk => e_icmp_eq 855 dL_law_487 (by decide) (fun _ => kk) (fun h => absurd h (not_not_intro rfl))) ?_
            refine r_go (fun kk => e_iinc (v := nI (i + 5)) (lv' := [(3, .int (nI (i + 5))), (0, .ref b), (1, .ref F), (2, .ref X.1)]) 0 dL_law_855 rfl (nI_add _ _) (by decide) rfl kk) ?_
            refine r_go (fun kk => e_goto 18 dL_law_858 (by decide) kk) ?_
            refine r_go (fun kk => e_sub [0, 1, 2, 3] rfl kk) ?_
            exact ih (i + 5) m2 (by omega) (by omega) hI2
          · skip
            refine r_go (fun kk => e_tabIn (off := 460) 492 dL_law_32 (by decide) (by decide) (by decide) (by decide) kk) ?_
            refine r_go (fun kk => e_aload_n 2 dL_law_492 rfl kk) ?_
            refine r_go (fun kk => e_aload_n 1 dL_law_493 rfl kk) ?_
            refine r_go (fun kk => e_iload_n 0 dL_law_494 rfl kk) ?_
            refine r_go (fun kk => e_ic (nI 1) dL_law_495 (by decide) kk) ?_
            refine r_go (fun kk => e_iaddN dL_law_496 kk) ?_
            refine r_go (fun kk => e_ialdSN (xs (i + 1)) dL_law_497 hM.2.1 (by rw [hM.2.2.1]; omega) (by rw [hM.2.2.1]; omega) (by rw [hM.2.2.2]) kk) ?_
            obtain ⟨v, m1, m2, E5, E6, hM1, hI2⟩ := l_virtual (G := G) hI (xs (i + 1))
            refine r_go (fun kk => e_callV (ci := 5) (st := []) (st1 := [.long v]) (As := [.int (xs (i + 1))]) E5 dL_law_498 (by decide) cm_X5_virtual lk_L_61 im_X5_virtual rfl sel_X5_virtual hF rfl rfl (Nat.le_of_ble_eq_true rfl) rfl kk) ?_
            refine r_go (fun kk => e_aload_n 3 dL_law_501 rfl kk) ?_
            refine r_go (fun kk => e_aload_n 1 dL_law_502 rfl kk) ?_
            refine r_go (fun kk => e_iload_n 0 dL_law_503 rfl kk) ?_
            refine r_go (fun kk => e_ic (nI 1) dL_law_504 (by decide) kk) ?_
            refine r_go (fun kk => e_iaddN dL_law_505 kk) ?_
            refine r_go (fun kk => e_ialdSN (xs (i + 1)) dL_law_506 hM1.2.1 (by rw [hM1.2.2.1]; omega) (by rw [hM1.2.2.1]; omega) (by rw [hM1.2.2.2]) kk) ?_
            refine r_go (fun kk => e_callV (ci := 6) (st := [.long v]) (st1 := [.long v, .long v]) (As := [.int (xs (i + 1))]) E6 dL_law_507 (by decide) cm_X6_virtual lk_L_65 im_X6_virtual rfl sel_X6_virtual hM1.1 rfl rfl (Nat.le_of_ble_eq_true rfl) rfl kk) ?_
            refine r_go (fun kk => e_lcmp dL_law_510 kk) ?_
            refine r_go (fun kk => e_lc_eq 855 dL_law_511 (by decide) (fun _ => kk) (fun h => absurd h (not_not_intro rfl))) ?_
            refine r_go (fun kk => e_iinc (v := nI (i + 5)) (lv' := [(3, .int (nI (i + 5))), (0, .ref b), (1, .ref F), (2, .ref X.1)]) 0 dL_law_855 rfl (nI_add _ _) (by decide) rfl kk) ?_
            refine r_go (fun kk => e_goto 18 dL_law_858 (by decide) kk) ?_
            refine r_go (fun kk => e_sub [0, 1, 2, 3] rfl kk) ?_
            exact ih (i + 5) m2 (by omega) (by omega) hI2
          · skip
            refine r_go (fun kk => e_tabIn (off := 484) 516 dL_law_32 (by decide) (by decide) (by decide) (by decide) kk) ?_
            refine r_go (fun kk => e_aload_n 2 dL_law_516 rfl kk) ?_
            refine r_go (fun kk => e_aload_n 1 dL_law_517 rfl kk) ?_
            refine r_go (fun kk => e_iload_n 0 dL_law_518 rfl kk) ?_
            refine r_go (fun kk => e_ic (nI 1) dL_law_519 (by decide) kk) ?_
            refine r_go (fun kk => e_iaddN dL_law_520 kk) ?_
            refine r_go (fun kk => e_ialdSN (xs (i + 1)) dL_law_521 hM.2.1 (by rw [hM.2.2.1]; omega) (by rw [hM.2.2.1]; omega) (by rw [hM.2.2.2]) kk) ?_
            refine r_go (fun kk => e_aload_n 1 dL_law_522 rfl kk) ?_
            refine r_go (fun kk => e_iload_n 0 dL_law_523 rfl kk) ?_
            refine r_go (fun kk => e_ic (nI 2) dL_law_524 (by decide) kk) ?_
            refine r_go (fun kk => e_iaddN dL_law_525 kk) ?_
            refine r_go (fun kk => e_ialdSN (xs (i + 2)) dL_law_526 hM.2.1 (by rw [hM.2.2.1]; omega) (by rw [hM.2.2.1]; omega) (by rw [hM.2.2.2]) kk) ?_
            obtain ⟨v, m1, m2, E5, E6, hM1, hI2⟩ := l_small (G := G) hI (xs (i + 1)) (xs (i + 2))
            refine r_go (fun kk => e_callV (ci := 5) (st := []) (st1 := [.int v]) (As := [.int (xs (i + 1)), .int (xs (i + 2))]) E5 dL_law_527 (by decide) cm_X5_small lk_L_66 im_X5_small rfl sel_X5_small hF rfl rfl (Nat.le_of_ble_eq_true rfl) rfl kk) ?_
            refine r_go (fun kk => e_aload_n 3 dL_law_530 rfl kk) ?_
            refine r_go (fun kk => e_aload_n 1 dL_law_531 rfl kk) ?_
            refine r_go (fun kk => e_iload_n 0 dL_law_532 rfl kk) ?_
            refine r_go (fun kk => e_ic (nI 1) dL_law_533 (by decide) kk) ?_
            refine r_go (fun kk => e_iaddN dL_law_534 kk) ?_
            refine r_go (fun kk => e_ialdSN (xs (i + 1)) dL_law_535 hM1.2.1 (by rw [hM1.2.2.1]; omega) (by rw [hM1.2.2.1]; omega) (by rw [hM1.2.2.2]) kk) ?_
            refine r_go (fun kk => e_aload_n 1 dL_law_536 rfl kk) ?_
            refine r_go (fun kk => e_iload_n 0 dL_law_537 rfl kk) ?_
            refine r_go (fun kk => e_ic (nI 2) dL_law_538 (by decide) kk) ?_
            refine r_go (fun kk => e_iaddN dL_law_539 kk) ?_
            refine r_go (fun kk => e_ialdSN (xs (i + 2)) dL_law_540 hM1.2.1 (by rw [hM1.2.2.1]; omega) (by rw [hM1.2.2.1]; omega) (by rw [hM1.2.2.2]) kk) ?_
            refine r_go (fun kk => e_callV (ci := 6) (st := [.int v]) (st1 := [.int v, .int v]) (As := [.int (xs (i + 1)), .int (xs (i + 2))]) E6 dL_law_541 (by decide) cm_X6_small lk_L_69 im_X6_small rfl sel_X6_small hM1.1 rfl rfl (Nat.le_of_ble_eq_true rfl) rfl kk) ?_
            refine r_go (fun kk => e_icmp_eq 855 dL_law_544 (by decide) (fun _ => kk) (fun h => absurd h (not_not_intro rfl))) ?_
            refine r_go (fun kk => e_iinc (v := nI (i + 5)) (lv' := [(3, .int (nI (i + 5))), (0, .ref b), (1, .ref F), (2, .ref X.1)]) 0 dL_law_855 rfl (nI_add _ _) (by decide) rfl kk) ?_
            refine r_go (fun kk => e_goto 18 dL_law_858 (by decide) kk) ?_
            refine r_go (fun kk => e_sub [0, 1, 2, 3] rfl kk) ?_
            exact ih (i + 5) m2 (by omega) (by omega) hI2
          · skip
            refine r_go (fun kk => e_tabIn (off := 517) 549 dL_law_32 (by decide) (by decide) (by decide) (by decide) kk) ?_
            refine r_go (fun kk => e_aload_n 2 dL_law_549 rfl kk) ?_
            refine r_go (fun kk => e_aload_n 1 dL_law_550 rfl kk) ?_
            refine r_go (fun kk => e_iload_n 0 dL_law_551 rfl kk) ?_
            refine r_go (fun kk => e_ic (nI 1) dL_law_552 (by decide) kk) ?_
            refine r_go (fun kk => e_iaddN dL_law_553 kk) ?_
            refine r_go (fun kk => e_ialdSN (xs (i + 1)) dL_law_554 hM.2.1 (by rw [hM.2.2.1]; omega) (by rw [hM.2.2.1]; omega) (by rw [hM.2.2.2]) kk) ?_
            refine r_go (fun kk => e_aload_n 1 dL_law_555 rfl kk) ?_
            refine r_go (fun kk => e_iload_n 0 dL_law_556 rfl kk) ?_
            refine r_go (fun kk => e_ic (nI 2) dL_law_557 (by decide) kk) ?_
            refine r_go (fun kk => e_iaddN dL_law_558 kk) ?_
            refine r_go (fun kk => e_ialdSN (xs (i + 2)) dL_law_559 hM.2.1 (by rw [hM.2.2.1]; omega) (by rw [hM.2.2.1]; omega) (by rw [hM.2.2.2]) kk) ?_
            obtain ⟨v, m1, m2, E5, E6, hM1, hI2⟩ := l_standing (G := G) hI (xs (i + 1)) (xs (i + 2))
            refine r_go (fun kk => e_callV (ci := 5) (st := []) (st1 := [.long v]) (As := [.int (xs (i + 1)), .int (xs (i + 2))]) E5 dL_law_560 (by decide) cm_X5_standing lk_L_70 im_X5_standing rfl sel_X5_standing hF rfl rfl (Nat.le_of_ble_eq_true rfl) rfl kk) ?_
            refine r_go (fun kk => e_aload_n 3 dL_law_563 rfl kk) ?_
            refine r_go (fun kk => e_aload_n 1 dL_law_564 rfl kk) ?_
            refine r_go (fun kk => e_iload_n 0 dL_law_565 rfl kk) ?_
            refine r_go (fun kk => e_ic (nI 1) dL_law_566 (by decide) kk) ?_
            refine r_go (fun kk => e_iaddN dL_law_567 kk) ?_
            refine r_go (fun kk => e_ialdSN (xs (i + 1)) dL_law_568 hM1.2.1 (by rw [hM1.2.2.1]; omega) (by rw [hM1.2.2.1]; omega) (by rw [hM1.2.2.2]) kk) ?_
            refine r_go (fun kk => e_aload_n 1 dL_law_569 rfl kk) ?_
            refine r_go (fun kk => e_iload_n 0 dL_law_570 rfl kk) ?_
            refine r_go (fun kk => e_ic (nI 2) dL_law_571 (by decide) kk) ?_
            refine r_go (fun kk => e_iaddN dL_law_572 kk) ?_
            refine r_go (fun kk => e_ialdSN (xs (i + 2)) dL_law_573 hM1.2.1 (by rw [hM1.2.2.1]; omega) (by rw [hM1.2.2.1]; omega) (by rw [hM1.2.2.2]) kk) ?_
            refine r_go (fun kk => e_callV (ci := 6) (st := [.long v]) (st1 := [.long v, .long v]) (As := [.int (xs (i + 1)), .int (xs (i + 2))]) E6 dL_law_574 (by decide) cm_X6_standing lk_L_74 im_X6_standing rfl sel_X6_standing hM1.1 rfl rfl (Nat.le_of_ble_eq_true rfl) rfl kk) ?_
            refine r_go (fun kk => e_lcmp dL_law_577 kk) ?_
            refine r_go (fun kk => e_lc_eq 855 dL_law_578 (by decide) (fun _ => kk) (fun h => absurd h (not_not_intro rfl))) ?_
            refine r_go (fun kk => e_iinc (v := nI (i + 5)) (lv' := [(3, .int (nI (i + 5))), (0, .ref b), (1, .ref F), (2, .ref X.1)]) 0 dL_law_855 rfl (nI_add _ _) (by decide) rfl kk) ?_
            refine r_go (fun kk => e_goto 18 dL_law_858 (by decide) kk) ?_
            refine r_go (fun kk => e_sub [0, 1, 2, 3] rfl kk) ?_
            exact ih (i + 5) m2 (by omega) (by omega) hI2
          · skip
            refine r_go (fun kk => e_tabIn (off := 551) 583 dL_law_32 (by decide) (by decide) (by decide) (by decide) kk) ?_
            refine r_go (fun kk => e_aload_n 2 dL_law_583 rfl kk) ?_
            refine r_go (fun kk => e_aload_n 1 dL_law_584 rfl kk) ?_
            refine r_go (fun kk => e_iload_n 0 dL_law_585 rfl kk) ?_
            refine r_go (fun kk => e_ic (nI 1) dL_law_586 (by decide) kk) ?_
            refine r_go (fun kk => e_iaddN dL_law_587 kk) ?_
            refine r_go (fun kk => e_ialdSN (xs (i + 1)) dL_law_588 hM.2.1 (by rw [hM.2.2.1]; omega) (by rw [hM.2.2.1]; omega) (by rw [hM.2.2.2]) kk) ?_
            obtain ⟨v, m1, m2, E5, E6, hM1, hI2⟩ := l_holder (G := G) hI (xs (i + 1))
            refine r_go (fun kk => e_callV (ci := 5) (st := []) (st1 := [.int v]) (As := [.int (xs (i + 1))]) E5 dL_law_589 (by decide) cm_X5_holder lk_L_75 im_X5_holder rfl sel_X5_holder hF rfl rfl (Nat.le_of_ble_eq_true rfl) rfl kk) ?_
            refine r_go (fun kk => e_aload_n 3 dL_law_592 rfl kk) ?_
            refine r_go (fun kk => e_aload_n 1 dL_law_593 rfl kk) ?_
            refine r_go (fun kk => e_iload_n 0 dL_law_594 rfl kk) ?_
            refine r_go (fun kk => e_ic (nI 1) dL_law_595 (by decide) kk) ?_
            refine r_go (fun kk => e_iaddN dL_law_596 kk) ?_
            refine r_go (fun kk => e_ialdSN (xs (i + 1)) dL_law_597 hM1.2.1 (by rw [hM1.2.2.1]; omega) (by rw [hM1.2.2.1]; omega) (by rw [hM1.2.2.2]) kk) ?_
            refine r_go (fun kk => e_callV (ci := 6) (st := [.int v]) (st1 := [.int v, .int v]) (As := [.int (xs (i + 1))]) E6 dL_law_598 (by decide) cm_X6_holder lk_L_78 im_X6_holder rfl sel_X6_holder hM1.1 rfl rfl (Nat.le_of_ble_eq_true rfl) rfl kk) ?_
            refine r_go (fun kk => e_icmp_eq 855 dL_law_601 (by decide) (fun _ => kk) (fun h => absurd h (not_not_intro rfl))) ?_
            refine r_go (fun kk => e_iinc (v := nI (i + 5)) (lv' := [(3, .int (nI (i + 5))), (0, .ref b), (1, .ref F), (2, .ref X.1)]) 0 dL_law_855 rfl (nI_add _ _) (by decide) rfl kk) ?_
            refine r_go (fun kk => e_goto 18 dL_law_858 (by decide) kk) ?_
            refine r_go (fun kk => e_sub [0, 1, 2, 3] rfl kk) ?_
            exact ih (i + 5) m2 (by omega) (by omega) hI2
          · skip
            refine r_go (fun kk => e_tabIn (off := 574) 606 dL_law_32 (by decide) (by decide) (by decide) (by decide) kk) ?_
            refine r_go (fun kk => e_aload_n 2 dL_law_606 rfl kk) ?_
            refine r_go (fun kk => e_aload_n 1 dL_law_607 rfl kk) ?_
            refine r_go (fun kk => e_iload_n 0 dL_law_608 rfl kk) ?_
            refine r_go (fun kk => e_ic (nI 1) dL_law_609 (by decide) kk) ?_
            refine r_go (fun kk => e_iaddN dL_law_610 kk) ?_
            refine r_go (fun kk => e_ialdSN (xs (i + 1)) dL_law_611 hM.2.1 (by rw [hM.2.2.1]; omega) (by rw [hM.2.2.1]; omega) (by rw [hM.2.2.2]) kk) ?_
            obtain ⟨v, m1, m2, E5, E6, hM1, hI2⟩ := l_ringed (G := G) hI (xs (i + 1))
            refine r_go (fun kk => e_callV (ci := 5) (st := []) (st1 := [.int v]) (As := [.int (xs (i + 1))]) E5 dL_law_612 (by decide) cm_X5_ringed lk_L_79 im_X5_ringed rfl sel_X5_ringed hF rfl rfl (Nat.le_of_ble_eq_true rfl) rfl kk) ?_
            refine r_go (fun kk => e_aload_n 3 dL_law_615 rfl kk) ?_
            refine r_go (fun kk => e_aload_n 1 dL_law_616 rfl kk) ?_
            refine r_go (fun kk => e_iload_n 0 dL_law_617 rfl kk) ?_
            refine r_go (fun kk => e_ic (nI 1) dL_law_618 (by decide) kk) ?_
            refine r_go (fun kk => e_iaddN dL_law_619 kk) ?_
            refine r_go (fun kk => e_ialdSN (xs (i + 1)) dL_law_620 hM1.2.1 (by rw [hM1.2.2.1]; omega) (by rw [hM1.2.2.1]; omega) (by rw [hM1.2.2.2]) kk) ?_
            refine r_go (fun kk => e_callV (ci := 6) (st := [.int v]) (st1 := [.int v, .int v]) (As := [.int (xs (i + 1))]) E6 dL_law_621 (by decide) cm_X6_ringed lk_L_82 im_X6_ringed rfl sel_X6_ringed hM1.1 rfl rfl (Nat.le_of_ble_eq_true rfl) rfl kk) ?_
            refine r_go (fun kk => e_icmp_eq 855 dL_law_624 (by decide) (fun _ => kk) (fun h => absurd h (not_not_intro rfl))) ?_
            refine r_go (fun kk => e_iinc (v := nI (i + 5)) (lv' := [(3, .int (nI (i + 5))), (0, .ref b), (1, .ref F), (2, .ref X.1)]) 0 dL_law_855 rfl (nI_add _ _) (by decide) rfl kk) ?_
            refine r_go (fun kk => e_goto 18 dL_law_858 (by decide) kk) ?_
            refine r_go (fun kk => e_sub [0, 1, 2, 3] rfl kk) ?_
            exact ih (i + 5) m2 (by omega) (by omega) hI2
          · skip
            refine r_go (fun kk => e_tabIn (off := 597) 629 dL_law_32 (by decide) (by decide) (by decide) (by decide) kk) ?_
            refine r_go (fun kk => e_aload_n 2 dL_law_629 rfl kk) ?_
            refine r_go (fun kk => e_aload_n 1 dL_law_630 rfl kk) ?_
            refine r_go (fun kk => e_iload_n 0 dL_law_631 rfl kk) ?_
            refine r_go (fun kk => e_ic (nI 1) dL_law_632 (by decide) kk) ?_
            refine r_go (fun kk => e_iaddN dL_law_633 kk) ?_
            refine r_go (fun kk => e_ialdSN (xs (i + 1)) dL_law_634 hM.2.1 (by rw [hM.2.2.1]; omega) (by rw [hM.2.2.1]; omega) (by rw [hM.2.2.2]) kk) ?_
            refine r_go (fun kk => e_aload_n 1 dL_law_635 rfl kk) ?_
            refine r_go (fun kk => e_iload_n 0 dL_law_636 rfl kk) ?_
            refine r_go (fun kk => e_ic (nI 2) dL_law_637 (by decide) kk) ?_
            refine r_go (fun kk => e_iaddN dL_law_638 kk) ?_
            refine r_go (fun kk => e_ialdSN (xs (i + 2)) dL_law_639 hM.2.1 (by rw [hM.2.2.1]; omega) (by rw [hM.2.2.1]; omega) (by rw [hM.2.2.2]) kk) ?_
            obtain ⟨v, m1, m2, E5, E6, hM1, hI2⟩ := l_row (G := G) hI (xs (i + 1)) (xs (i + 2))
            refine r_go (fun kk => e_callV (ci := 5) (st := []) (st1 := [.int v]) (As := [.int (xs (i + 1)), .int (xs (i + 2))]) E5 dL_law_640 (by decide) cm_X5_row lk_L_83 im_X5_row rfl sel_X5_row hF rfl rfl (Nat.le_of_ble_eq_true rfl) rfl kk) ?_
            refine r_go (fun kk => e_aload_n 3 dL_law_643 rfl kk) ?_
            refine r_go (fun kk => e_aload_n 1 dL_law_644 rfl kk) ?_
            refine r_go (fun kk => e_iload_n 0 dL_law_645 rfl kk) ?_
            refine r_go (fun kk => e_ic (nI 1) dL_law_646 (by decide) kk) ?_
            refine r_go (fun kk => e_iaddN dL_law_647 kk) ?_
            refine r_go (fun kk => e_ialdSN (xs (i + 1)) dL_law_648 hM1.2.1 (by rw [hM1.2.2.1]; omega) (by rw [hM1.2.2.1]; omega) (by rw [hM1.2.2.2]) kk) ?_
            refine r_go (fun kk => e_aload_n 1 dL_law_649 rfl kk) ?_
            refine r_go (fun kk => e_iload_n 0 dL_law_650 rfl kk) ?_
            refine r_go (fun kk => e_ic (nI 2) dL_law_651 (by decide) kk) ?_
            refine r_go (fun kk => e_iaddN dL_law_652 kk) ?_
            refine r_go (fun kk => e_ialdSN (xs (i + 2)) dL_law_653 hM1.2.1 (by rw [hM1.2.2.1]; omega) (by rw [hM1.2.2.1]; omega) (by rw [hM1.2.2.2]) kk) ?_
            refine r_go (fun kk => e_callV (ci := 6) (st := [.int v]) (st1 := [.int v, .int v]) (As := [.int (xs (i + 1)), .int (xs (i + 2))]) E6 dL_law_654 (by decide) cm_X6_row lk_L_86 im_X6_row rfl sel_X6_row hM1.1 rfl rfl (Nat.le_of_ble_eq_true rfl) rfl kk) ?_
            refine r_go (fun kk => e_icmp_eq 855 dL_law_657 (by decide) (fun _ => kk) (fun h => absurd h (not_not_intro rfl))) ?_
            refine r_go (fun kk => e_iinc (v := nI (i + 5)) (lv' := [(3, .int (nI (i + 5))), (0, .ref b), (1, .ref F), (2, .ref X.1)]) 0 dL_law_855 rfl (nI_add _ _) (by decide) rfl kk) ?_
            refine r_go (fun kk => e_goto 18 dL_law_858 (by decide) kk) ?_
            refine r_go (fun kk => e_sub [0, 1, 2, 3] rfl kk) ?_
            exact ih (i + 5) m2 (by omega) (by omega) hI2
          · skip
            refine r_go (fun kk => e_tabIn (off := 630) 662 dL_law_32 (by decide) (by decide) (by decide) (by decide) kk) ?_
            refine r_go (fun kk => e_aload_n 2 dL_law_662 rfl kk) ?_
            refine r_go (fun kk => e_aload_n 1 dL_law_663 rfl kk) ?_
            refine r_go (fun kk => e_iload_n 0 dL_law_664 rfl kk) ?_
            refine r_go (fun kk => e_ic (nI 1) dL_law_665 (by decide) kk) ?_
            refine r_go (fun kk => e_iaddN dL_law_666 kk) ?_
            refine r_go (fun kk => e_ialdSN (xs (i + 1)) dL_law_667 hM.2.1 (by rw [hM.2.2.1]; omega) (by rw [hM.2.2.1]; omega) (by rw [hM.2.2.2]) kk) ?_
            refine r_go (fun kk => e_aload_n 1 dL_law_668 rfl kk) ?_
            refine r_go (fun kk => e_iload_n 0 dL_law_669 rfl kk) ?_
            refine r_go (fun kk => e_ic (nI 2) dL_law_670 (by decide) kk) ?_
            refine r_go (fun kk => e_iaddN dL_law_671 kk) ?_
            refine r_go (fun kk => e_ialdSN (xs (i + 2)) dL_law_672 hM.2.1 (by rw [hM.2.2.1]; omega) (by rw [hM.2.2.1]; omega) (by rw [hM.2.2.2]) kk) ?_
            refine r_go (fun kk => e_aload_n 1 dL_law_673 rfl kk) ?_
            refine r_go (fun kk => e_iload_n 0 dL_law_674 rfl kk) ?_
            refine r_go (fun kk => e_ic (nI 3) dL_law_675 (by decide) kk) ?_
            refine r_go (fun kk => e_iaddN dL_law_676 kk) ?_
            refine r_go (fun kk => e_ialdSN (xs (i + 3)) dL_law_677 hM.2.1 (by rw [hM.2.2.1]; omega) (by rw [hM.2.2.1]; omega) (by rw [hM.2.2.2]) kk) ?_
            obtain ⟨v, m1, m2, E5, E6, hM1, hI2⟩ := l_forge (G := G) hI (xs (i + 1)) (xs (i + 2)) (xs (i + 3))
            refine r_go (fun kk => e_callV (ci := 5) (st := []) (st1 := [.int v]) (As := [.int (xs (i + 1)), .int (xs (i + 2)), .int (xs (i + 3))]) E5 dL_law_678 (by decide) cm_X5_forge lk_L_87 im_X5_forge rfl sel_X5_forge hF rfl rfl (Nat.le_of_ble_eq_true rfl) rfl kk) ?_
            refine r_go (fun kk => e_aload_n 3 dL_law_681 rfl kk) ?_
            refine r_go (fun kk => e_aload_n 1 dL_law_682 rfl kk) ?_
            refine r_go (fun kk => e_iload_n 0 dL_law_683 rfl kk) ?_
            refine r_go (fun kk => e_ic (nI 1) dL_law_684 (by decide) kk) ?_
            refine r_go (fun kk => e_iaddN dL_law_685 kk) ?_
            refine r_go (fun kk => e_ialdSN (xs (i + 1)) dL_law_686 hM1.2.1 (by rw [hM1.2.2.1]; omega) (by rw [hM1.2.2.1]; omega) (by rw [hM1.2.2.2]) kk) ?_
            refine r_go (fun kk => e_aload_n 1 dL_law_687 rfl kk) ?_
            refine r_go (fun kk => e_iload_n 0 dL_law_688 rfl kk) ?_
            refine r_go (fun kk => e_ic (nI 2) dL_law_689 (by decide) kk) ?_
            refine r_go (fun kk => e_iaddN dL_law_690 kk) ?_
            refine r_go (fun kk => e_ialdSN (xs (i + 2)) dL_law_691 hM1.2.1 (by rw [hM1.2.2.1]; omega) (by rw [hM1.2.2.1]; omega) (by rw [hM1.2.2.2]) kk) ?_
            refine r_go (fun kk => e_aload_n 1 dL_law_692 rfl kk) ?_
            refine r_go (fun kk => e_iload_n 0 dL_law_693 rfl kk) ?_
            refine r_go (fun kk => e_ic (nI 3) dL_law_694 (by decide) kk) ?_
            refine r_go (fun kk => e_iaddN dL_law_695 kk) ?_
            refine r_go (fun kk => e_ialdSN (xs (i + 3)) dL_law_696 hM1.2.1 (by rw [hM1.2.2.1]; omega) (by rw [hM1.2.2.1]; omega) (by rw [hM1.2.2.2]) kk) ?_
            refine r_go (fun kk => e_callV (ci := 6) (st := [.int v]) (st1 := [.int v, .int v]) (As := [.int (xs (i + 1)), .int (xs (i + 2)), .int (xs (i + 3))]) E6 dL_law_697 (by decide) cm_X6_forge lk_L_90 im_X6_forge rfl sel_X6_forge hM1.1 rfl rfl (Nat.le_of_ble_eq_true rfl) rfl kk) ?_
            refine r_go (fun kk => e_icmp_eq 855 dL_law_700 (by decide) (fun _ => kk) (fun h => absurd h (not_not_intro rfl))) ?_
            refine r_go (fun kk => e_iinc (v := nI (i + 5)) (lv' := [(3, .int (nI (i + 5))), (0, .ref b), (1, .ref F), (2, .ref X.1)]) 0 dL_law_855 rfl (nI_add _ _) (by decide) rfl kk) ?_
            refine r_go (fun kk => e_goto 18 dL_law_858 (by decide) kk) ?_
            refine r_go (fun kk => e_sub [0, 1, 2, 3] rfl kk) ?_
            exact ih (i + 5) m2 (by omega) (by omega) hI2
          · skip
            refine r_go (fun kk => e_tabIn (off := 673) 705 dL_law_32 (by decide) (by decide) (by decide) (by decide) kk) ?_
            refine r_go (fun kk => e_aload_n 2 dL_law_705 rfl kk) ?_
            obtain ⟨v, m1, m2, E5, E6, hM1, hI2⟩ := l_check (G := G) hI
            refine r_go (fun kk => e_callV (ci := 5) (st := []) (st1 := [.int v]) (As := []) E5 dL_law_706 (by decide) cm_X5_check lk_L_91 im_X5_check rfl sel_X5_check hF rfl rfl (Nat.le_of_ble_eq_true rfl) rfl kk) ?_
            refine r_go (fun kk => e_aload_n 3 dL_law_709 rfl kk) ?_
            refine r_go (fun kk => e_callV (ci := 6) (st := [.int v]) (st1 := [.int v, .int v]) (As := []) E6 dL_law_710 (by decide) cm_X6_check lk_L_95 im_X6_check rfl sel_X6_check hM1.1 rfl rfl (Nat.le_of_ble_eq_true rfl) rfl kk) ?_
            refine r_go (fun kk => e_icmp_eq 855 dL_law_713 (by decide) (fun _ => kk) (fun h => absurd h (not_not_intro rfl))) ?_
            refine r_go (fun kk => e_iinc (v := nI (i + 5)) (lv' := [(3, .int (nI (i + 5))), (0, .ref b), (1, .ref F), (2, .ref X.1)]) 0 dL_law_855 rfl (nI_add _ _) (by decide) rfl kk) ?_
            refine r_go (fun kk => e_goto 18 dL_law_858 (by decide) kk) ?_
            refine r_go (fun kk => e_sub [0, 1, 2, 3] rfl kk) ?_
            exact ih (i + 5) m2 (by omega) (by omega) hI2
          · skip
            refine r_go (fun kk => e_tabIn (off := 686) 718 dL_law_32 (by decide) (by decide) (by decide) (by decide) kk) ?_
            refine r_go (fun kk => e_aload_n 2 dL_law_718 rfl kk) ?_
            obtain ⟨v, m1, m2, E5, E6, hM1, hI2⟩ := l_checkedTo (G := G) hI
            refine r_go (fun kk => e_callV (ci := 5) (st := []) (st1 := [.int v]) (As := []) E5 dL_law_719 (by decide) cm_X5_checkedTo lk_L_96 im_X5_checkedTo rfl sel_X5_checkedTo hF rfl rfl (Nat.le_of_ble_eq_true rfl) rfl kk) ?_
            refine r_go (fun kk => e_aload_n 3 dL_law_722 rfl kk) ?_
            refine r_go (fun kk => e_callV (ci := 6) (st := [.int v]) (st1 := [.int v, .int v]) (As := []) E6 dL_law_723 (by decide) cm_X6_checkedTo lk_L_99 im_X6_checkedTo rfl sel_X6_checkedTo hM1.1 rfl rfl (Nat.le_of_ble_eq_true rfl) rfl kk) ?_
            refine r_go (fun kk => e_icmp_eq 855 dL_law_726 (by decide) (fun _ => kk) (fun h => absurd h (not_not_intro rfl))) ?_
            refine r_go (fun kk => e_iinc (v := nI (i + 5)) (lv' := [(3, .int (nI (i + 5))), (0, .ref b), (1, .ref F), (2, .ref X.1)]) 0 dL_law_855 rfl (nI_add _ _) (by decide) rfl kk) ?_
            refine r_go (fun kk => e_goto 18 dL_law_858 (by decide) kk) ?_
            refine r_go (fun kk => e_sub [0, 1, 2, 3] rfl kk) ?_
            exact ih (i + 5) m2 (by omega) (by omega) hI2
          · skip
            refine r_go (fun kk => e_tabIn (off := 699) 731 dL_law_32 (by decide) (by decide) (by decide) (by decide) kk) ?_
            refine r_go (fun kk => e_aload_n 2 dL_law_731 rfl kk) ?_
            refine r_go (fun kk => e_aload_n 1 dL_law_732 rfl kk) ?_
            refine r_go (fun kk => e_iload_n 0 dL_law_733 rfl kk) ?_
            refine r_go (fun kk => e_ic (nI 1) dL_law_734 (by decide) kk) ?_
            refine r_go (fun kk => e_iaddN dL_law_735 kk) ?_
            refine r_go (fun kk => e_ialdSN (xs (i + 1)) dL_law_736 hM.2.1 (by rw [hM.2.2.1]; omega) (by rw [hM.2.2.1]; omega) (by rw [hM.2.2.2]) kk) ?_
            obtain ⟨v, m1, m2, E5, E6, hM1, hI2⟩ := l_bound (G := G) hI (xs (i + 1))
            refine r_go (fun kk => e_callV (ci := 5) (st := []) (st1 := [.long v]) (As := [.int (xs (i + 1))]) E5 dL_law_737 (by decide) cm_X5_bound lk_L_100 im_X5_bound rfl sel_X5_bound hF rfl rfl (Nat.le_of_ble_eq_true rfl) rfl kk) ?_
            refine r_go (fun kk => e_aload_n 3 dL_law_740 rfl kk) ?_
            refine r_go (fun kk => e_aload_n 1 dL_law_741 rfl kk) ?_
            refine r_go (fun kk => e_iload_n 0 dL_law_742 rfl kk) ?_
            refine r_go (fun kk => e_ic (nI 1) dL_law_743 (by decide) kk) ?_
            refine r_go (fun kk => e_iaddN dL_law_744 kk) ?_
            refine r_go (fun kk => e_ialdSN (xs (i + 1)) dL_law_745 hM1.2.1 (by rw [hM1.2.2.1]; omega) (by rw [hM1.2.2.1]; omega) (by rw [hM1.2.2.2]) kk) ?_
            refine r_go (fun kk => e_callV (ci := 6) (st := [.long v]) (st1 := [.long v, .long v]) (As := [.int (xs (i + 1))]) E6 dL_law_746 (by decide) cm_X6_bound lk_L_103 im_X6_bound rfl sel_X6_bound hM1.1 rfl rfl (Nat.le_of_ble_eq_true rfl) rfl kk) ?_
            refine r_go (fun kk => e_lcmp dL_law_749 kk) ?_
            refine r_go (fun kk => e_lc_eq 855 dL_law_750 (by decide) (fun _ => kk) (fun h => absurd h (not_not_intro rfl))) ?_
            refine r_go (fun kk => e_iinc (v := nI (i + 5)) (lv' := [(3, .int (nI (i + 5))), (0, .ref b), (1, .ref F), (2, .ref X.1)]) 0 dL_law_855 rfl (nI_add _ _) (by decide) rfl kk) ?_
            refine r_go (fun kk => e_goto 18 dL_law_858 (by decide) kk) ?_
            refine r_go (fun kk => e_sub [0, 1, 2, 3] rfl kk) ?_
            exact ih (i + 5) m2 (by omega) (by omega) hI2
          · skip
            refine r_go (fun kk => e_tabIn (off := 723) 755 dL_law_32 (by decide) (by decide) (by decide) (by decide) kk) ?_
            refine r_go (fun kk => e_aload_n 2 dL_law_755 rfl kk) ?_
            refine r_go (fun kk => e_aload_n 1 dL_law_756 rfl kk) ?_
            refine r_go (fun kk => e_iload_n 0 dL_law_757 rfl kk) ?_
            refine r_go (fun kk => e_ic (nI 1) dL_law_758 (by decide) kk) ?_
            refine r_go (fun kk => e_iaddN dL_law_759 kk) ?_
            refine r_go (fun kk => e_ialdSN (xs (i + 1)) dL_law_760 hM.2.1 (by rw [hM.2.2.1]; omega) (by rw [hM.2.2.1]; omega) (by rw [hM.2.2.2]) kk) ?_
            obtain ⟨v, m1, m2, E5, E6, hM1, hI2⟩ := l_trace (G := G) hI (xs (i + 1))
            refine r_go (fun kk => e_callV (ci := 5) (st := []) (st1 := [.int v]) (As := [.int (xs (i + 1))]) E5 dL_law_761 (by decide) cm_X5_trace lk_L_104 im_X5_trace rfl sel_X5_trace hF rfl rfl (Nat.le_of_ble_eq_true rfl) rfl kk) ?_
            refine r_go (fun kk => e_aload_n 3 dL_law_764 rfl kk) ?_
            refine r_go (fun kk => e_aload_n 1 dL_law_765 rfl kk) ?_
            refine r_go (fun kk => e_iload_n 0 dL_law_766 rfl kk) ?_
            refine r_go (fun kk => e_ic (nI 1) dL_law_767 (by decide) kk) ?_
            refine r_go (fun kk => e_iaddN dL_law_768 kk) ?_
            refine r_go (fun kk => e_ialdSN (xs (i + 1)) dL_law_769 hM1.2.1 (by rw [hM1.2.2.1]; omega) (by rw [hM1.2.2.1]; omega) (by rw [hM1.2.2.2]) kk) ?_
            refine r_go (fun kk => e_callV (ci := 6) (st := [.int v]) (st1 := [.int v, .int v]) (As := [.int (xs (i + 1))]) E6 dL_law_770 (by decide) cm_X6_trace lk_L_107 im_X6_trace rfl sel_X6_trace hM1.1 rfl rfl (Nat.le_of_ble_eq_true rfl) rfl kk) ?_
            refine r_go (fun kk => e_icmp_eq 855 dL_law_773 (by decide) (fun _ => kk) (fun h => absurd h (not_not_intro rfl))) ?_
            refine r_go (fun kk => e_iinc (v := nI (i + 5)) (lv' := [(3, .int (nI (i + 5))), (0, .ref b), (1, .ref F), (2, .ref X.1)]) 0 dL_law_855 rfl (nI_add _ _) (by decide) rfl kk) ?_
            refine r_go (fun kk => e_goto 18 dL_law_858 (by decide) kk) ?_
            refine r_go (fun kk => e_sub [0, 1, 2, 3] rfl kk) ?_
            exact ih (i + 5) m2 (by omega) (by omega) hI2
          · skip
            refine r_go (fun kk => e_tabIn (off := 746) 778 dL_law_32 (by decide) (by decide) (by decide) (by decide) kk) ?_
            refine r_go (fun kk => e_aload_n 2 dL_law_778 rfl kk) ?_
            refine r_go (fun kk => e_aload_n 1 dL_law_779 rfl kk) ?_
            refine r_go (fun kk => e_iload_n 0 dL_law_780 rfl kk) ?_
            refine r_go (fun kk => e_ic (nI 1) dL_law_781 (by decide) kk) ?_
            refine r_go (fun kk => e_iaddN dL_law_782 kk) ?_
            refine r_go (fun kk => e_ialdSN (xs (i + 1)) dL_law_783 hM.2.1 (by rw [hM.2.2.1]; omega) (by rw [hM.2.2.1]; omega) (by rw [hM.2.2.2]) kk) ?_
            obtain ⟨v, m1, m2, E5, E6, hM1, hI2⟩ := l_count (G := G) hI (xs (i + 1))
            refine r_go (fun kk => e_callV (ci := 5) (st := []) (st1 := [.int v]) (As := [.int (xs (i + 1))]) E5 dL_law_784 (by decide) cm_X5_count lk_L_108 im_X5_count rfl sel_X5_count hF rfl rfl (Nat.le_of_ble_eq_true rfl) rfl kk) ?_
            refine r_go (fun kk => e_aload_n 3 dL_law_787 rfl kk) ?_
            refine r_go (fun kk => e_aload_n 1 dL_law_788 rfl kk) ?_
            refine r_go (fun kk => e_iload_n 0 dL_law_789 rfl kk) ?_
            refine r_go (fun kk => e_ic (nI 1) dL_law_790 (by decide) kk) ?_
            refine r_go (fun kk => e_iaddN dL_law_791 kk) ?_
            refine r_go (fun kk => e_ialdSN (xs (i + 1)) dL_law_792 hM1.2.1 (by rw [hM1.2.2.1]; omega) (by rw [hM1.2.2.1]; omega) (by rw [hM1.2.2.2]) kk) ?_
            refine r_go (fun kk => e_callV (ci := 6) (st := [.int v]) (st1 := [.int v, .int v]) (As := [.int (xs (i + 1))]) E6 dL_law_793 (by decide) cm_X6_count lk_L_111 im_X6_count rfl sel_X6_count hM1.1 rfl rfl (Nat.le_of_ble_eq_true rfl) rfl kk) ?_
            refine r_go (fun kk => e_icmp_eq 855 dL_law_796 (by decide) (fun _ => kk) (fun h => absurd h (not_not_intro rfl))) ?_
            refine r_go (fun kk => e_iinc (v := nI (i + 5)) (lv' := [(3, .int (nI (i + 5))), (0, .ref b), (1, .ref F), (2, .ref X.1)]) 0 dL_law_855 rfl (nI_add _ _) (by decide) rfl kk) ?_
            refine r_go (fun kk => e_goto 18 dL_law_858 (by decide) kk) ?_
            refine r_go (fun kk => e_sub [0, 1, 2, 3] rfl kk) ?_
            exact ih (i + 5) m2 (by omega) (by omega) hI2
          · skip
            refine r_go (fun kk => e_tabIn (off := 769) 801 dL_law_32 (by decide) (by decide) (by decide) (by decide) kk) ?_
            refine r_go (fun kk => e_aload_n 2 dL_law_801 rfl kk) ?_
            obtain ⟨v, m1, m2, E5, E6, hM1, hI2⟩ := l_image (G := G) hI
            refine r_go (fun kk => e_callV (ci := 5) (st := []) (st1 := [.long v]) (As := []) E5 dL_law_802 (by decide) cm_X5_image lk_L_112 im_X5_image rfl sel_X5_image hF rfl rfl (Nat.le_of_ble_eq_true rfl) rfl kk) ?_
            refine r_go (fun kk => e_aload_n 3 dL_law_805 rfl kk) ?_
            refine r_go (fun kk => e_callV (ci := 6) (st := [.long v]) (st1 := [.long v, .long v]) (As := []) E6 dL_law_806 (by decide) cm_X6_image lk_L_116 im_X6_image rfl sel_X6_image hM1.1 rfl rfl (Nat.le_of_ble_eq_true rfl) rfl kk) ?_
            refine r_go (fun kk => e_lcmp dL_law_809 kk) ?_
            refine r_go (fun kk => e_lc_eq 855 dL_law_810 (by decide) (fun _ => kk) (fun h => absurd h (not_not_intro rfl))) ?_
            refine r_go (fun kk => e_iinc (v := nI (i + 5)) (lv' := [(3, .int (nI (i + 5))), (0, .ref b), (1, .ref F), (2, .ref X.1)]) 0 dL_law_855 rfl (nI_add _ _) (by decide) rfl kk) ?_
            refine r_go (fun kk => e_goto 18 dL_law_858 (by decide) kk) ?_
            refine r_go (fun kk => e_sub [0, 1, 2, 3] rfl kk) ?_
            exact ih (i + 5) m2 (by omega) (by omega) hI2
          · skip
            refine r_go (fun kk => e_tabIn (off := 783) 815 dL_law_32 (by decide) (by decide) (by decide) (by decide) kk) ?_
            refine r_go (fun kk => e_aload_n 2 dL_law_815 rfl kk) ?_
            obtain ⟨v, m1, m2, E5, E6, hM1, hI2⟩ := l_load (G := G) hI
            refine r_go (fun kk => e_callV (ci := 5) (st := []) (st1 := [.int v]) (As := []) E5 dL_law_816 (by decide) cm_X5_load lk_L_117 im_X5_load rfl sel_X5_load hF rfl rfl (Nat.le_of_ble_eq_true rfl) rfl kk) ?_
            refine r_go (fun kk => e_aload_n 3 dL_law_819 rfl kk) ?_
            refine r_go (fun kk => e_callV (ci := 6) (st := [.int v]) (st1 := [.int v, .int v]) (As := []) E6 dL_law_820 (by decide) cm_X6_load lk_L_121 im_X6_load rfl sel_X6_load hM1.1 rfl rfl (Nat.le_of_ble_eq_true rfl) rfl kk) ?_
            refine r_go (fun kk => e_icmp_eq 855 dL_law_823 (by decide) (fun _ => kk) (fun h => absurd h (not_not_intro rfl))) ?_
            refine r_go (fun kk => e_iinc (v := nI (i + 5)) (lv' := [(3, .int (nI (i + 5))), (0, .ref b), (1, .ref F), (2, .ref X.1)]) 0 dL_law_855 rfl (nI_add _ _) (by decide) rfl kk) ?_
            refine r_go (fun kk => e_goto 18 dL_law_858 (by decide) kk) ?_
            refine r_go (fun kk => e_sub [0, 1, 2, 3] rfl kk) ?_
            exact ih (i + 5) m2 (by omega) (by omega) hI2
          · skip
            refine r_go (fun kk => e_tabIn (off := 796) 828 dL_law_32 (by decide) (by decide) (by decide) (by decide) kk) ?_
            refine r_go (fun kk => e_aload_n 2 dL_law_828 rfl kk) ?_
            obtain ⟨v, m1, m2, E5, E6, hM1, hI2⟩ := l_digest (G := G) hI
            refine r_go (fun kk => e_callV (ci := 5) (st := []) (st1 := [.long v]) (As := []) E5 dL_law_829 (by decide) cm_X5_digest lk_L_122 im_X5_digest rfl sel_X5_digest hF rfl rfl (Nat.le_of_ble_eq_true rfl) rfl kk) ?_
            refine r_go (fun kk => e_aload_n 3 dL_law_832 rfl kk) ?_
            refine r_go (fun kk => e_callV (ci := 6) (st := [.long v]) (st1 := [.long v, .long v]) (As := []) E6 dL_law_833 (by decide) cm_X6_digest lk_L_125 im_X6_digest rfl sel_X6_digest hM1.1 rfl rfl (Nat.le_of_ble_eq_true rfl) rfl kk) ?_
            refine r_go (fun kk => e_lcmp dL_law_836 kk) ?_
            refine r_go (fun kk => e_lc_eq 855 dL_law_837 (by decide) (fun _ => kk) (fun h => absurd h (not_not_intro rfl))) ?_
            refine r_go (fun kk => e_iinc (v := nI (i + 5)) (lv' := [(3, .int (nI (i + 5))), (0, .ref b), (1, .ref F), (2, .ref X.1)]) 0 dL_law_855 rfl (nI_add _ _) (by decide) rfl kk) ?_
            refine r_go (fun kk => e_goto 18 dL_law_858 (by decide) kk) ?_
            refine r_go (fun kk => e_sub [0, 1, 2, 3] rfl kk) ?_
            exact ih (i + 5) m2 (by omega) (by omega) hI2
          · skip
            refine r_go (fun kk => e_tabIn (off := 810) 842 dL_law_32 (by decide) (by decide) (by decide) (by decide) kk) ?_
            refine r_go (fun kk => e_aload_n 2 dL_law_842 rfl kk) ?_
            obtain ⟨v, m1, m2, E5, E6, hM1, hI2⟩ := l_status (G := G) hI
            refine r_go (fun kk => e_callV (ci := 5) (st := []) (st1 := [.int v]) (As := []) E5 dL_law_843 (by decide) cm_X5_status lk_L_126 im_X5_status rfl sel_X5_status hF rfl rfl (Nat.le_of_ble_eq_true rfl) rfl kk) ?_
            refine r_go (fun kk => e_aload_n 3 dL_law_846 rfl kk) ?_
            refine r_go (fun kk => e_callV (ci := 6) (st := [.int v]) (st1 := [.int v, .int v]) (As := []) E6 dL_law_847 (by decide) cm_X6_status lk_L_129 im_X6_status rfl sel_X6_status hM1.1 rfl rfl (Nat.le_of_ble_eq_true rfl) rfl kk) ?_
            refine r_go (fun kk => e_icmp_eq 855 dL_law_850 (by decide) (fun _ => kk) (fun h => absurd h (not_not_intro rfl))) ?_
            refine r_go (fun kk => e_iinc (v := nI (i + 5)) (lv' := [(3, .int (nI (i + 5))), (0, .ref b), (1, .ref F), (2, .ref X.1)]) 0 dL_law_855 rfl (nI_add _ _) (by decide) rfl kk) ?_
            refine r_go (fun kk => e_goto 18 dL_law_858 (by decide) kk) ?_
            refine r_go (fun kk => e_sub [0, 1, 2, 3] rfl kk) ?_
            exact ih (i + 5) m2 (by omega) (by omega) hI2
        · skip
          rw [Bool.not_eq_true] at hsw
          refine r_go (fun kk => e_tabOut 855 dL_law_32 (inI_out (a := 0) (b := 25) (by decide) (by decide) hsw) (by decide) kk) ?_
          refine r_go (fun kk => e_iinc (v := nI (i + 5)) (lv' := [(3, .int (nI (i + 5))), (0, .ref b), (1, .ref F), (2, .ref X.1)]) 0 dL_law_855 rfl (nI_add _ _) (by decide) rfl kk) ?_
          refine r_go (fun kk => e_goto 18 dL_law_858 (by decide) kk) ?_
          refine r_go (fun kk => e_sub [0, 1, 2, 3] rfl kk) ?_
          exact ih (i + 5) m (by omega) (by omega) hI
      · skip
        refine r_go (fun kk => e_iload_n 0 dL_law_18 rfl kk) ?_
        refine r_go (fun kk => e_aload_n 1 dL_law_19 rfl kk) ?_
        refine r_go (fun kk => e_alenS (n := nI L) dL_law_20 hM.2.1 (by rw [hM.2.2.1]; rfl) kk) ?_
        refine r_go (fun kk => e_ic (nI 5) dL_law_21 (by decide) kk) ?_
        refine r_go (fun kk => e_isubN dL_law_22 (by omega) kk) ?_
        refine r_go (fun kk => e_icmp_gtN 861 dL_law_23 (by decide) (by omega) (by omega) (fun _ => kk) (fun h => absurd h (by omega))) ?_
        refine r_go (fun kk => e_ic (nI 1) dL_law_861 (by decide) kk) ?_
        exact r_ret ⟨rfl, hI.z⟩ (e_retI dL_law_862 rfl rfl rfl)
    · have hneg : nI L - nI 5 < nI i := by
        rcases (show L = 0 ∨ L = 1 ∨ L = 2 ∨ L = 3 ∨ L = 4 by omega) with rfl | rfl | rfl | rfl | rfl <;> exact Int32.lt_of_lt_of_le (by decide) (nI_pos' (by omega))
      refine r_go (fun kk => e_iload_n 0 dL_law_18 rfl kk) ?_
      refine r_go (fun kk => e_aload_n 1 dL_law_19 rfl kk) ?_
      refine r_go (fun kk => e_alenS (n := nI L) dL_law_20 hM.2.1 (by rw [hM.2.2.1]; rfl) kk) ?_
      refine r_go (fun kk => e_ic (nI 5) dL_law_21 (by decide) kk) ?_
      refine r_go (fun kk => e_isub dL_law_22 kk) ?_
      refine r_go (fun kk => e_icmp_gt 861 dL_law_23 (by decide) (fun _ => kk) (fun h => absurd h (not_not_intro hneg))) ?_
      refine r_go (fun kk => e_ic (nI 1) dL_law_861 (by decide) kk) ?_
      exact r_ret ⟨rfl, hI.z⟩ (e_retI dL_law_862 rfl rfl rfl)

end Law3
