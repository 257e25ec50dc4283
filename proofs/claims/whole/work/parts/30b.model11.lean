/-! the reference: takesLock, givesLock, forks, says, smalls -/
section Model11
variable {G : GG} {m : Mem} {X : XX} {kf : KF} {vf : VF} {lf : Nat → Int32}
set_option maxRecDepth 100000 in
set_option maxHeartbeats 4000000 in
theorem m_tk1 (hX : MW m X) {t n j z0 n0 : Nat} {r : Option Value} {mF : Mem} (ht : t < 200) (hn2 : n ≤ 200) (hC : CH kf n) : ∀ (f : Nat) (w : Int32) (c : Nat), (w < 0 ∨ ∃ i, i < n ∧ w = nI i) → (chn kf t f w < 0 ∨ chn kf t f w = nI t) → EvB G 2 uX6_takesLock z0 n0 r mF 124 [(5, .int (chn kf t f w)), (4, .int (nI (c + cnt kf t f w))), (3, .int (kf (240 + j))), (0, .ref X.1), (1, .int (nI t)), (2, .int (nI j))] [] (MM m X (kf, vf, lf)) → EvB G 2 uX6_takesLock z0 n0 r mF 72 [(5, .int w), (4, .int (nI c)), (3, .int (kf (240 + j))), (0, .ref X.1), (1, .int (nI t)), (2, .int (nI j))] [] (MM m X (kf, vf, lf)) := by
  intro f
  induction f with
  | zero =>
    intro w c hw hD K
    rw [chn] at hD K
    rw [cnt, Nat.add_zero] at K
    refine e_iload 0 dX6_takesLock_72 rfl ?_
    refine e_if_lt 124 dX6_takesLock_74 (by decide) (fun h1 => ?_) (fun h1 => ?_)
    · skip
      have h1' := Int32.not_le.mpr h1
      refine e_sub [0, 1, 2, 3, 4, 5] rfl ?_
      exact K
    · skip
      have h1' := Int32.not_lt.mp h1
      obtain ⟨i, hi, rfl⟩ := hw.resolve_left h1
      refine e_iload 0 dX6_takesLock_77 rfl ?_
      refine e_iload_n 4 dX6_takesLock_79 rfl ?_
      refine e_icmp_eqN 124 dX6_takesLock_80 (by decide) (by omega) (by omega) (fun h2 => ?_) (fun h2 => ?_)
      · skip
        refine e_sub [0, 1, 2, 3, 4, 5] rfl ?_
        exact K
      · skip
        exact absurd (hD.resolve_left h1) (mt (nI_eq (by omega) (by omega)).mp h2)
  | succ f ih =>
    intro w c hw hD K
    refine e_iload 0 dX6_takesLock_72 rfl ?_
    refine e_if_lt 124 dX6_takesLock_74 (by decide) (fun h1 => ?_) (fun h1 => ?_)
    · skip
      have h1' := Int32.not_le.mpr h1
      rw [chn, if_pos h1, cnt, if_pos h1] at K
      refine e_sub [0, 1, 2, 3, 4, 5] rfl ?_
      exact K
    · skip
      have h1' := Int32.not_lt.mp h1
      obtain ⟨i, hi, rfl⟩ := hw.resolve_left h1
      refine e_iload 0 dX6_takesLock_77 rfl ?_
      refine e_iload_n 4 dX6_takesLock_79 rfl ?_
      refine e_icmp_eqN 124 dX6_takesLock_80 (by decide) (by omega) (by omega) (fun h2 => ?_) (fun h2 => ?_)
      · skip
        subst h2
        rw [chn, if_neg h1, if_pos rfl, cnt, if_neg h1, if_pos rfl] at K
        refine e_sub [0, 1, 2, 3, 4, 5] rfl ?_
        exact K
      · skip
        refine e_iinc1N (lv' := [(4, .int (nI (c + 1))), (5, .int (nI i)), (3, .int (kf (240 + j))), (0, .ref X.1), (1, .int (nI t)), (2, .int (nI j))]) 1 dX6_takesLock_83 rfl (by decide) rfl ?_
        refine e_aload_n 3 dX6_takesLock_86 rfl ?_
        refine e_iload 1 dX6_takesLock_87 rfl ?_
        refine e_bipush (v := nI 6) dX6_takesLock_89 (by decide) ?_
        refine e_callV (ci := 6) (st := []) (st1 := [.int (kg kf i 6)]) (As := [.int (nI i), .int (nI 6)]) (m_get hX (kg_lt (by omega) (by omega))) dX6_takesLock_91 (by decide) cm_X6_get lk_X6_36 im_X6_get rfl sel_X6_get hX.1 rfl rfl (Nat.le_of_ble_eq_true rfl) rfl ?_
        refine e_ic (nI 1) dX6_takesLock_94 (by decide) ?_
        refine e_iv (w := 1) rfl ?_
        refine e_icmp_ne 118 dX6_takesLock_95 (by decide) (fun h3 => ?_) (fun h3 => ?_)
        · skip
          refine e_ic ((-1)) dX6_takesLock_118 (by decide) ?_
          refine e_istore (lv' := [(5, .int (-1)), (4, .int (nI (c + 1))), (3, .int (kf (240 + j))), (0, .ref X.1), (1, .int (nI t)), (2, .int (nI j))]) dX6_takesLock_119 (by decide) rfl ?_
          refine e_goto 72 dX6_takesLock_121 (by decide) ?_
          refine e_sub [0, 1, 2, 3, 4, 5] rfl ?_
          rw [chn_s (by omega) (mt (nI_eq (by omega) (by omega)).mp h2), nxt, if_neg h3] at hD K
          rw [cnt, if_neg h1, if_neg (mt (nI_eq (by omega) (by omega)).mp h2), nI_clamp (show i < 2 ^ 31 by omega), nxt, if_neg h3] at K
          refine ih (-1) (c + 1) (Or.inl (by decide)) hD ?_
          rw [show c + (cnt kf t f (-1) + 1) = c + 1 + cnt kf t f (-1) by omega] at K
          exact K
        · skip
          obtain ⟨l, hl, e7, e8⟩ := hC i hi h3
          refine e_aload_n 3 dX6_takesLock_98 rfl ?_
          refine e_mk hX dX6_takesLock_99 fl_X6_8 ?_
          refine e_sipush (v := nI 240) dX6_takesLock_102 (by decide) ?_
          refine e_aload_n 3 dX6_takesLock_105 rfl ?_
          refine e_iload 1 dX6_takesLock_106 rfl ?_
          refine e_bipush (v := nI 7) dX6_takesLock_108 (by decide) ?_
          refine e_callV (ci := 6) (st := [.int (nI 240), .ref X.2.1]) (st1 := [.int (kg kf i 7), .int (nI 240), .ref X.2.1]) (As := [.int (nI i), .int (nI 7)]) (m_get hX (kg_lt (by omega) (by omega))) dX6_takesLock_110 (by decide) cm_X6_get lk_X6_36 im_X6_get rfl sel_X6_get hX.1 rfl rfl (Nat.le_of_ble_eq_true rfl) rfl ?_
          refine e_iv (w := nI l) e7 ?_
          refine e_iaddN dX6_takesLock_113 ?_
          refine e_kld hX dX6_takesLock_114 (by omega) ?_
          refine e_goto 119 dX6_takesLock_115 (by decide) ?_
          refine e_istore (lv' := [(5, .int (kf (240 + l))), (4, .int (nI (c + 1))), (3, .int (kf (240 + j))), (0, .ref X.1), (1, .int (nI t)), (2, .int (nI j))]) dX6_takesLock_119 (by decide) rfl ?_
          refine e_goto 72 dX6_takesLock_121 (by decide) ?_
          refine e_sub [0, 1, 2, 3, 4, 5] rfl ?_
          rw [chn_s (by omega) (mt (nI_eq (by omega) (by omega)).mp h2), nxt, if_pos h3, e7, nI_clamp (show l < 2 ^ 31 by omega)] at hD K
          rw [cnt, if_neg h1, if_neg (mt (nI_eq (by omega) (by omega)).mp h2), nI_clamp (show i < 2 ^ 31 by omega), nxt, if_pos h3, e7, nI_clamp (show l < 2 ^ 31 by omega)] at K
          refine ih _ (c + 1) e8 hD ?_
          rw [show c + (cnt kf t f (kf (240 + l)) + 1) = c + 1 + cnt kf t f (kf (240 + l)) by omega] at K
          exact K
set_option maxRecDepth 100000 in
set_option maxHeartbeats 4000000 in
theorem m_tk2 (hX : MW m X) {t n j c z0 n0 : Nat} {r : Option Value} {mF : Mem} (ht : t < 200) (hn2 : n ≤ 200) (hj : j < 100) (hC : CH kf n) (hc : c ≤ 200) (hQ : ∀ i, i < c → ∃ q, q < n ∧ itr kf i (kf (240 + j)) = nI q ∧ kg kf q 6 = 1) (hR : r = some (.int (nI 12))) (hM : MM m X (rgP kf t c (kf (240 + j)) c, vf, lf) = mF) : ∀ (k i : Nat), i + k = c → EvB G 2 uX6_takesLock z0 n0 r mF 173 [(6, .int (nI (i + 1))), (5, .int (itr kf i (kf (240 + j)))), (4, .int (nI c)), (0, .ref X.1), (1, .int (nI t))] [] (MM m X ((rgP kf t c (kf (240 + j)) i), vf, lf)) := by
  intro k
  induction k with
  | zero =>
    intro i hi
    refine e_iload 0 dX6_takesLock_173 rfl ?_
    refine e_iload 2 dX6_takesLock_175 rfl ?_
    refine e_icmp_gtN 221 dX6_takesLock_177 (by decide) (by omega) (by omega) (fun _ => ?_) (fun h => absurd h (by omega))
    refine e_bipush (v := nI 12) dX6_takesLock_221 (by decide) ?_
    exact e_retI dX6_takesLock_223 rfl rfl hR (by rw [← hM, show i = c by omega])
  | succ k ih =>
    intro i hi
    obtain ⟨q, hq, eq, h6⟩ := hQ i (by omega)
    obtain ⟨l, hl, e7, e8⟩ := hC q hq h6
    refine e_iload 0 dX6_takesLock_173 rfl ?_
    refine e_iload 2 dX6_takesLock_175 rfl ?_
    refine e_icmp_gtN 221 dX6_takesLock_177 (by decide) (by omega) (by omega) (fun h => absurd h (by omega)) (fun _ => ?_)
    refine e_aload_n 3 dX6_takesLock_180 rfl ?_
    refine e_mk hX dX6_takesLock_181 fl_X6_8 ?_
    refine e_bipush (v := nI 16) dX6_takesLock_184 (by decide) ?_
    refine e_iload 0 dX6_takesLock_186 rfl ?_
    refine e_iaddN dX6_takesLock_188 ?_
    refine e_iload 1 dX6_takesLock_189 rfl ?_
    refine e_kst hX dX6_takesLock_191 (by omega) ?_
    refine e_aload_n 3 dX6_takesLock_192 rfl ?_
    refine e_mk hX dX6_takesLock_193 fl_X6_8 ?_
    refine e_sipush (v := nI 240) dX6_takesLock_196 (by decide) ?_
    refine e_aload_n 3 dX6_takesLock_199 rfl ?_
    refine e_iload 1 dX6_takesLock_200 rfl ?_
    refine e_iv (w := nI q) eq ?_
    refine e_bipush (v := nI 7) dX6_takesLock_202 (by decide) ?_
    refine e_callV (ci := 6) (st := [.int (nI 240), .ref X.2.1]) (st1 := [.int (kg (upd (rgP kf t c (kf (240 + j)) i) (16 + (i + 1)) (itr kf i (kf (240 + j)))) q 7), .int (nI 240), .ref X.2.1]) (As := [.int (nI q), .int (nI 7)]) (m_get hX (kg_lt (by omega) (by omega))) dX6_takesLock_204 (by decide) cm_X6_get lk_X6_36 im_X6_get rfl sel_X6_get hX.1 rfl rfl (Nat.le_of_ble_eq_true rfl) rfl ?_
    refine e_iv (w := nI l) (by show upd (rgP _ _ _ _ _) _ _ _ = _; rw [upd_ne _ _ (by omega), rgP_hi _ _ _ _ (by omega) _ (by omega)]; exact e7) ?_
    refine e_ic (nI 0) dX6_takesLock_207 (by decide) ?_
    refine e_jmax dX6_takesLock_208 lkm_X6_120 (Nat.le_of_ble_eq_true rfl) ?_
    refine e_iv (w := nI l) (mx_n (by omega)) ?_
    refine e_iaddN dX6_takesLock_211 ?_
    refine e_kld hX dX6_takesLock_212 (by omega) ?_
    refine e_iv (w := itr kf (i + 1) (kf (240 + j))) (by rw [upd_ne _ _ (by omega), rgP_hi _ _ _ _ (by omega) _ (by omega), itr_s, eq, nI_clamp (show q < 2 ^ 31 by omega), nxt, if_pos h6, e7, nI_clamp (show l < 2 ^ 31 by omega)]) ?_
    refine e_istore (lv' := [(5, .int (itr kf (i + 1) (kf (240 + j)))), (6, .int (nI (i + 1))), (4, .int (nI c)), (0, .ref X.1), (1, .int (nI t))]) dX6_takesLock_213 (by decide) rfl ?_
    refine e_iinc1N (lv' := [(6, .int (nI ((i + 1) + 1))), (5, .int (itr kf (i + 1) (kf (240 + j)))), (4, .int (nI c)), (0, .ref X.1), (1, .int (nI t))]) 1 dX6_takesLock_215 rfl (by decide) rfl ?_
    refine e_goto 173 dX6_takesLock_218 (by decide) ?_
    refine e_sub [0, 1, 2, 3, 4] rfl ?_
    exact ih (i + 1) (by omega)
set_option maxRecDepth 100000 in
set_option maxHeartbeats 4000000 in
theorem m_takesLock (hX : MW m X) {n t : Nat} (ht : t < 200) (hn2 : n ≤ 200) (hC : CH kf n) (hV : HV kf n) (hE : ∀ i, i < n → chn kf t 200 (nI i) < 0 ∨ chn kf t 200 (nI i) = nI t) {q : Int32} : Ev G 2 uX6_takesLock [.ref X.1, .int (nI t), .int q] (MM m X (kf, vf, lf)) (some (.int (tkF kf t q).1)) (MM m X ((tkF kf t q).2, vf, lf)) := by
  refine Ev.of (by decide +kernel) (Nat.le_of_ble_eq_true rfl) ?_
  refine e_lvs (lv' := [(0, .ref X.1), (1, .int (nI t)), (2, .int q)]) rfl ?_
  refine e_iload_n 2 dX6_takesLock_0 rfl ?_
  refine e_i2l dX6_takesLock_1 ?_
  refine e_lconst (v := lN 0) dX6_takesLock_2 (by decide) ?_
  refine e_ldc2 dX6_takesLock_3 cs_X6_118 ?_
  refine e_lv (w := lN 99) (by decide) ?_
  refine e_callS (st := []) (st1 := [.int (bI (inI q (nI 0) (nI 99)))]) (As := [.long q.toInt64, .long (lN 0), .long (lN 99)]) (m_isInI (x := q) (lo := (nI 0)) (hi := (nI 99)) rfl ((nI_l (by omega)).symm) ((nI_l (by omega)).symm) _) dX6_takesLock_6 (by decide) cm_X6_isIn lk_X6_32 sm_X6_isIn rfl rfl (Nat.le_of_ble_eq_true rfl) rfl ?_
  refine e_if_eqB 27 dX6_takesLock_9 (by decide) (fun h1 => ?_) (fun h1 => ?_)
  · skip
    refine e_bipush (v := nI 7) dX6_takesLock_27 (by decide) ?_
    exact e_retI dX6_takesLock_29 rfl rfl (by simp [tkF, h1]) (by simp [tkF, h1])
  · skip
    obtain ⟨j, hj0, hj, rfl⟩ := inI_n (by decide) (by decide) h1
    have cj : (nI j).toNatClampNeg = j := nI_clamp (by omega)
    refine e_aload_n 0 dX6_takesLock_12 rfl ?_
    refine e_mk hX dX6_takesLock_13 fl_X6_8 ?_
    refine e_sipush (v := nI 240) dX6_takesLock_16 (by decide) ?_
    refine e_iload_n 2 dX6_takesLock_19 rfl ?_
    refine e_iaddN dX6_takesLock_20 ?_
    refine e_kld hX dX6_takesLock_21 (by omega) ?_
    refine e_bipush (v := (-2)) dX6_takesLock_22 (by decide) ?_
    refine e_icmp_ne 30 dX6_takesLock_24 (by decide) (fun h2 => ?_) (fun h2 => ?_)
    · skip
      refine e_aload_n 0 dX6_takesLock_30 rfl ?_
      refine e_mk hX dX6_takesLock_31 fl_X6_8 ?_
      refine e_sipush (v := nI 240) dX6_takesLock_34 (by decide) ?_
      refine e_iload_n 2 dX6_takesLock_37 rfl ?_
      refine e_iaddN dX6_takesLock_38 ?_
      refine e_kld hX dX6_takesLock_39 (by omega) ?_
      refine e_istore_n (lv' := [(3, .int (kf (240 + j))), (0, .ref X.1), (1, .int (nI t)), (2, .int (nI j))]) dX6_takesLock_40 (by decide) rfl ?_
      refine e_iload_n 0 dX6_takesLock_41 rfl ?_
      refine e_iload_n 2 dX6_takesLock_42 rfl ?_
      refine e_icmp_ne 49 dX6_takesLock_43 (by decide) (fun h3 => ?_) (fun h3 => ?_)
      · skip
        refine e_iload_n 0 dX6_takesLock_49 rfl ?_
        refine e_if_ge 66 dX6_takesLock_50 (by decide) (fun h4 => ?_) (fun h4 => ?_)
        · skip
          have h4' := Int32.not_lt.mpr h4
          refine e_ic (nI 0) dX6_takesLock_66 (by decide) ?_
          refine e_istore (lv' := [(4, .int (nI 0)), (3, .int (kf (240 + j))), (0, .ref X.1), (1, .int (nI t)), (2, .int (nI j))]) dX6_takesLock_67 (by decide) rfl ?_
          refine e_iload_n 1 dX6_takesLock_69 rfl ?_
          refine e_istore (lv' := [(5, .int (kf (240 + j))), (4, .int (nI 0)), (3, .int (kf (240 + j))), (0, .ref X.1), (1, .int (nI t)), (2, .int (nI j))]) dX6_takesLock_70 (by decide) rfl ?_
          refine e_sub [0, 1, 2, 3, 4, 5] rfl ?_
          have hh := (hV j (by omega)).resolve_left (Int32.not_lt.mpr h4)
          obtain ⟨i0, hi0, ei0⟩ := hh
          refine m_tk1 hX ht hn2 hC 200 _ 0 (hV j (by omega)) (by rw [ei0]; exact hE i0 hi0) ?_
          refine e_iload 0 dX6_takesLock_124 rfl ?_
          refine e_if_ge 139 dX6_takesLock_126 (by decide) (fun h5 => ?_) (fun h5 => ?_)
          · skip
            have h5' := Int32.not_lt.mpr h5
            refine e_aload_n 3 dX6_takesLock_139 rfl ?_
            refine e_mk hX dX6_takesLock_140 fl_X6_8 ?_
            refine e_ic (nI 4) dX6_takesLock_143 (by decide) ?_
            refine e_dup2 dX6_takesLock_144 rfl rfl ?_
            refine e_kld hX dX6_takesLock_145 (by omega) ?_
            refine e_ic (nI 1) dX6_takesLock_146 (by decide) ?_
            refine e_iadd dX6_takesLock_147 ?_
            refine e_kst hX dX6_takesLock_148 (by omega) ?_
            refine e_aload_n 3 dX6_takesLock_149 rfl ?_
            refine e_mk hX dX6_takesLock_150 fl_X6_8 ?_
            refine e_ic (nI 5) dX6_takesLock_153 (by decide) ?_
            refine e_iload 1 dX6_takesLock_154 rfl ?_
            refine e_ic (nI 1) dX6_takesLock_156 (by decide) ?_
            refine e_iaddN dX6_takesLock_157 ?_
            refine e_kst hX dX6_takesLock_158 (by omega) ?_
            refine e_aload_n 3 dX6_takesLock_159 rfl ?_
            refine e_mk hX dX6_takesLock_160 fl_X6_8 ?_
            refine e_bipush (v := nI 16) dX6_takesLock_163 (by decide) ?_
            refine e_iload_n 4 dX6_takesLock_165 rfl ?_
            refine e_kst hX dX6_takesLock_166 (by omega) ?_
            refine e_iload_n 2 dX6_takesLock_167 rfl ?_
            refine e_istore (lv' := [(5, .int (kf (240 + j))), (4, .int (nI (0 + cnt kf t 200 (kf (240 + j))))), (3, .int (kf (240 + j))), (0, .ref X.1), (1, .int (nI t)), (2, .int (nI j))]) dX6_takesLock_168 (by decide) rfl ?_
            refine e_ic (nI 1) dX6_takesLock_170 (by decide) ?_
            refine e_istore (lv' := [(6, .int (nI 1)), (5, .int (kf (240 + j))), (4, .int (nI (0 + cnt kf t 200 (kf (240 + j))))), (3, .int (kf (240 + j))), (0, .ref X.1), (1, .int (nI t)), (2, .int (nI j))]) dX6_takesLock_171 (by decide) rfl ?_
            have ec : chn kf t 200 (kf (240 + j)) = nI t := (by rw [ei0]; exact hE i0 hi0 : chn kf t 200 (kf (240 + j)) < 0 ∨ chn kf t 200 (kf (240 + j)) = nI t).resolve_left h5'
            refine e_sub [0, 1, 2, 4, 5] rfl ?_
            rw [Nat.zero_add]
            exact m_tk2 (j := j) (c := cnt kf t 200 (kf (240 + j))) hX ht hn2 (by omega) hC (cnt_le _ _ _ _) (ring_ok ht hn2 hC 200 _ (hV j (by omega)) ec) (by rw [tkF, if_pos ⟨h1, by rw [cj]; exact h2⟩, cj, if_neg h3, if_neg (Int32.not_lt.mpr h4), if_neg h5']) (by rw [tkF, if_pos ⟨h1, by rw [cj]; exact h2⟩, cj, if_neg h3, if_neg (Int32.not_lt.mpr h4), if_neg h5']) _ 0 (Nat.zero_add _)
          · skip
            have h5' := Int32.not_le.mp h5
            refine e_aload_n 3 dX6_takesLock_129 rfl ?_
            refine e_iload_n 4 dX6_takesLock_130 rfl ?_
            refine e_ic (nI 1) dX6_takesLock_131 (by decide) ?_
            refine e_iload_n 5 dX6_takesLock_132 rfl ?_
            refine e_ic ((-1)) dX6_takesLock_133 (by decide) ?_
            refine e_callV (ci := 6) (st := []) (st1 := []) (As := [.int (nI t), .int (nI 1), .int (nI j), .int (-1)]) (m_waits hX (by omega)) dX6_takesLock_134 (by decide) cm_X6_waits lk_X6_99 im_X6_waits rfl sel_X6_waits hX.1 rfl rfl (Nat.le_of_ble_eq_true rfl) rfl ?_
            refine e_ic ((-1)) dX6_takesLock_137 (by decide) ?_
            exact e_retI dX6_takesLock_138 rfl rfl (by rw [tkF, if_pos ⟨h1, by rw [cj]; exact h2⟩, cj, if_neg h3, if_neg (Int32.not_lt.mpr h4), if_pos h5']) (by rw [tkF, if_pos ⟨h1, by rw [cj]; exact h2⟩, cj, if_neg h3, if_neg (Int32.not_lt.mpr h4), if_pos h5'])
        · skip
          have h4' := Int32.not_le.mp h4
          refine e_aload_n 1 dX6_takesLock_53 rfl ?_
          refine e_mk hX dX6_takesLock_54 fl_X6_8 ?_
          refine e_sipush (v := nI 240) dX6_takesLock_57 (by decide) ?_
          refine e_iload_n 3 dX6_takesLock_60 rfl ?_
          refine e_iaddN dX6_takesLock_61 ?_
          refine e_iload_n 2 dX6_takesLock_62 rfl ?_
          refine e_kst hX dX6_takesLock_63 (by omega) ?_
          refine e_ic (nI 0) dX6_takesLock_64 (by decide) ?_
          exact e_retI dX6_takesLock_65 rfl rfl (by simp [tkF, h1, h2, h3, h4, h4', cj]) (by simp [tkF, h1, h2, h3, h4, h4', cj])
      · skip
        refine e_bipush (v := nI 11) dX6_takesLock_46 (by decide) ?_
        exact e_retI dX6_takesLock_48 rfl rfl (by rw [tkF, if_pos ⟨h1, by rw [cj]; exact h2⟩, cj, if_pos h3]) (by rw [tkF, if_pos ⟨h1, by rw [cj]; exact h2⟩, cj, if_pos h3])
    · skip
      refine e_bipush (v := nI 7) dX6_takesLock_27 (by decide) ?_
      exact e_retI dX6_takesLock_29 rfl rfl (by simp [tkF, h1, h2, cj]) (by simp [tkF, h1, h2, cj])
set_option maxRecDepth 100000 in
set_option maxHeartbeats 4000000 in
theorem m_givesLock (hX : MW m X) {n t : Nat} {q : Int32} (ht : t < 200) (hn : kf 1 = nI n) (hn2 : n ≤ 200) (hC' : ∀ j, j < 100 → kf (240 + j) = nI t → CH (upd kf (240 + j) (-1)) n) : Ev G 7 uX6_givesLock [.ref X.1, .int (nI t), .int q] (MM m X (kf, vf, lf)) (some (.int (gvF kf vf t q).1)) (MM m X ((gvF kf vf t q).2, vf, lf)) := by
  refine Ev.of (by decide +kernel) (Nat.le_of_ble_eq_true rfl) ?_
  refine e_lvs (lv' := [(0, .ref X.1), (1, .int (nI t)), (2, .int q)]) rfl ?_
  refine e_iload_n 2 dX6_givesLock_0 rfl ?_
  refine e_i2l dX6_givesLock_1 ?_
  refine e_lconst (v := lN 0) dX6_givesLock_2 (by decide) ?_
  refine e_ldc2 dX6_givesLock_3 cs_X6_118 ?_
  refine e_lv (w := lN 99) (by decide) ?_
  refine e_callS (st := []) (st1 := [.int (bI (inI q (nI 0) (nI 99)))]) (As := [.long q.toInt64, .long (lN 0), .long (lN 99)]) (m_isInI (x := q) (lo := (nI 0)) (hi := (nI 99)) rfl ((nI_l (by omega)).symm) ((nI_l (by omega)).symm) _) dX6_givesLock_6 (by decide) cm_X6_isIn lk_X6_32 sm_X6_isIn rfl rfl (Nat.le_of_ble_eq_true rfl) rfl ?_
  refine e_if_eqB 27 dX6_givesLock_9 (by decide) (fun h1 => ?_) (fun h1 => ?_)
  · skip
    refine e_bipush (v := nI 7) dX6_givesLock_27 (by decide) ?_
    exact e_retI dX6_givesLock_29 rfl rfl (by simp [gvF, h1]) (by simp [gvF, h1])
  · skip
    obtain ⟨j, hj0, hj, rfl⟩ := inI_n (by decide) (by decide) h1
    have cj : (nI j).toNatClampNeg = j := nI_clamp (by omega)
    refine e_aload_n 0 dX6_givesLock_12 rfl ?_
    refine e_mk hX dX6_givesLock_13 fl_X6_8 ?_
    refine e_sipush (v := nI 240) dX6_givesLock_16 (by decide) ?_
    refine e_iload_n 2 dX6_givesLock_19 rfl ?_
    refine e_iaddN dX6_givesLock_20 ?_
    refine e_kld hX dX6_givesLock_21 (by omega) ?_
    refine e_bipush (v := (-2)) dX6_givesLock_22 (by decide) ?_
    refine e_icmp_ne 30 dX6_givesLock_24 (by decide) (fun h2 => ?_) (fun h2 => ?_)
    · skip
      refine e_aload_n 0 dX6_givesLock_30 rfl ?_
      refine e_mk hX dX6_givesLock_31 fl_X6_8 ?_
      refine e_sipush (v := nI 240) dX6_givesLock_34 (by decide) ?_
      refine e_iload_n 2 dX6_givesLock_37 rfl ?_
      refine e_iaddN dX6_givesLock_38 ?_
      refine e_kld hX dX6_givesLock_39 (by omega) ?_
      refine e_iload_n 1 dX6_givesLock_40 rfl ?_
      refine e_icmp_eq 47 dX6_givesLock_41 (by decide) (fun h3 => ?_) (fun h3 => ?_)
      · skip
        refine e_aload_n 0 dX6_givesLock_47 rfl ?_
        refine e_mk hX dX6_givesLock_48 fl_X6_8 ?_
        refine e_sipush (v := nI 240) dX6_givesLock_51 (by decide) ?_
        refine e_iload_n 2 dX6_givesLock_54 rfl ?_
        refine e_iaddN dX6_givesLock_55 ?_
        refine e_ic ((-1)) dX6_givesLock_56 (by decide) ?_
        refine e_kst hX dX6_givesLock_57 (by omega) ?_
        refine e_aload_n 0 dX6_givesLock_58 rfl ?_
        refine e_iload_n 2 dX6_givesLock_59 rfl ?_
        refine e_callV (ci := 6) (st := []) (st1 := []) (As := [.int (nI j)]) (m_passes hX (n := n) (by omega) (by rw [upd_ne _ _ (by omega)]; exact hn) hn2 (hC' j (by omega) h3)) dX6_givesLock_60 (by decide) cm_X6_passes lk_X6_73 im_X6_passes rfl sel_X6_passes hX.1 rfl rfl (Nat.le_of_ble_eq_true rfl) rfl ?_
        refine e_ic (nI 0) dX6_givesLock_63 (by decide) ?_
        exact e_retI dX6_givesLock_64 rfl rfl (by rw [gvF, if_pos ⟨h1, by rw [cj]; exact h2⟩, cj, if_pos h3]) (by rw [gvF, if_pos ⟨h1, by rw [cj]; exact h2⟩, cj, if_pos h3])
      · skip
        refine e_bipush (v := nI 11) dX6_givesLock_44 (by decide) ?_
        exact e_retI dX6_givesLock_46 rfl rfl (by rw [gvF, if_pos ⟨h1, by rw [cj]; exact h2⟩, cj, if_neg h3]) (by rw [gvF, if_pos ⟨h1, by rw [cj]; exact h2⟩, cj, if_neg h3])
    · skip
      refine e_bipush (v := nI 7) dX6_givesLock_27 (by decide) ?_
      exact e_retI dX6_givesLock_29 rfl rfl (by simp [gvF, h1, h2, cj]) (by simp [gvF, h1, h2, cj])
set_option maxRecDepth 100000 in
set_option maxHeartbeats 4000000 in
theorem m_forks (hX : MW m X) {n t : Nat} {q : Int32} (ht : t < 200) (hn : kf 1 = nI n) (hn2 : n ≤ 200) : Ev G 2 uX6_forks [.ref X.1, .int (nI t), .int q] (MM m X (kf, vf, lf)) (some (.int (fkF kf vf t q).1)) (MM m X ((fkF kf vf t q).2.1, (fkF kf vf t q).2.2, lf)) := by
  refine Ev.of (by decide +kernel) (Nat.le_of_ble_eq_true rfl) ?_
  refine e_lvs (lv' := [(0, .ref X.1), (1, .int (nI t)), (2, .int q)]) rfl ?_
  refine e_iload_n 2 dX6_forks_0 rfl ?_
  refine e_i2l dX6_forks_1 ?_
  refine e_lconst (v := lN 0) dX6_forks_2 (by decide) ?_
  refine e_ldc2 dX6_forks_3 cs_X6_125 ?_
  refine e_lv (w := lN 31) (by decide) ?_
  refine e_callS (st := []) (st1 := [.int (bI (inI q (nI 0) (nI 31)))]) (As := [.long q.toInt64, .long (lN 0), .long (lN 31)]) (m_isInI (x := q) (lo := (nI 0)) (hi := (nI 31)) rfl ((nI_l (by omega)).symm) ((nI_l (by omega)).symm) _) dX6_forks_6 (by decide) cm_X6_isIn lk_X6_32 sm_X6_isIn rfl rfl (Nat.le_of_ble_eq_true rfl) rfl ?_
  refine e_if_neB 15 dX6_forks_9 (by decide) (fun h1 => ?_) (fun h1 => ?_)
  · skip
    refine e_aload_n 0 dX6_forks_15 rfl ?_
    refine e_mk hX dX6_forks_16 fl_X6_8 ?_
    refine e_ic (nI 1) dX6_forks_19 (by decide) ?_
    refine e_kld hX dX6_forks_20 (by omega) ?_
    refine e_sipush (v := nI 200) dX6_forks_21 (by decide) ?_
    refine e_iv (w := 200) rfl ?_
    refine e_icmp_ne 30 dX6_forks_24 (by decide) (fun h2 => ?_) (fun h2 => ?_)
    · skip
      have hn3 : n < 200 := Nat.lt_of_le_of_ne hn2 (fun z => h2 (by rw [hn, z]; rfl))
      refine e_aload_n 0 dX6_forks_30 rfl ?_
      refine e_aload_n 0 dX6_forks_31 rfl ?_
      refine e_iload_n 1 dX6_forks_32 rfl ?_
      refine e_ic (nI 0) dX6_forks_33 (by decide) ?_
      refine e_callV (ci := 6) (st := [.ref X.1]) (st1 := [.int (kg kf t 0), .ref X.1]) (As := [.int (nI t), .int (nI 0)]) (m_get hX (kg_lt (by omega) (by omega))) dX6_forks_34 (by decide) cm_X6_get lk_X6_36 im_X6_get rfl sel_X6_get hX.1 rfl rfl (Nat.le_of_ble_eq_true rfl) rfl ?_
      refine e_iload_n 2 dX6_forks_37 rfl ?_
      refine e_aload_n 0 dX6_forks_38 rfl ?_
      refine e_iload_n 1 dX6_forks_39 rfl ?_
      refine e_ic (nI 2) dX6_forks_40 (by decide) ?_
      refine e_callV (ci := 6) (st := [.int q, .int (kg kf t 0), .ref X.1]) (st1 := [.int (kg kf t 2), .int q, .int (kg kf t 0), .ref X.1]) (As := [.int (nI t), .int (nI 2)]) (m_get hX (kg_lt (by omega) (by omega))) dX6_forks_41 (by decide) cm_X6_get lk_X6_36 im_X6_get rfl sel_X6_get hX.1 rfl rfl (Nat.le_of_ble_eq_true rfl) rfl ?_
      refine e_aload_n 0 dX6_forks_44 rfl ?_
      refine e_iload_n 1 dX6_forks_45 rfl ?_
      refine e_bipush (v := nI 10) dX6_forks_46 (by decide) ?_
      refine e_callV (ci := 6) (st := [.int (kg kf t 2), .int q, .int (kg kf t 0), .ref X.1]) (st1 := [.int (kg kf t 10), .int (kg kf t 2), .int q, .int (kg kf t 0), .ref X.1]) (As := [.int (nI t), .int (nI 10)]) (m_get hX (kg_lt (by omega) (by omega))) dX6_forks_48 (by decide) cm_X6_get lk_X6_36 im_X6_get rfl sel_X6_get hX.1 rfl rfl (Nat.le_of_ble_eq_true rfl) rfl ?_
      refine e_aload_n 0 dX6_forks_51 rfl ?_
      refine e_iload_n 1 dX6_forks_52 rfl ?_
      refine e_bipush (v := nI 11) dX6_forks_53 (by decide) ?_
      refine e_callV (ci := 6) (st := [.int (kg kf t 10), .int (kg kf t 2), .int q, .int (kg kf t 0), .ref X.1]) (st1 := [.int (kg kf t 11), .int (kg kf t 10), .int (kg kf t 2), .int q, .int (kg kf t 0), .ref X.1]) (As := [.int (nI t), .int (nI 11)]) (m_get hX (kg_lt (by omega) (by omega))) dX6_forks_55 (by decide) cm_X6_get lk_X6_36 im_X6_get rfl sel_X6_get hX.1 rfl rfl (Nat.le_of_ble_eq_true rfl) rfl ?_
      refine e_callV (ci := 6) (st := []) (st1 := [.int (nI n)]) (As := [.int (kg kf t 0), .int q, .int (kg kf t 2), .int (kg kf t 10), .int (kg kf t 11)]) (m_added hX hn (by omega)) dX6_forks_58 (by decide) cm_X6_added lk_X6_127 im_X6_added rfl sel_X6_added hX.1 rfl rfl (Nat.le_of_ble_eq_true rfl) rfl ?_
      refine e_istore_n (lv' := [(3, .int (nI n)), (0, .ref X.1), (1, .int (nI t)), (2, .int q)]) dX6_forks_61 (by decide) rfl ?_
      refine e_ic (nI 0) dX6_forks_62 (by decide) ?_
      exact e_retI dX6_forks_63 rfl rfl (by rw [fkF, if_pos h1, if_neg h2, nT_of hn hn2]) (by rw [fkF, if_pos h1, if_neg h2, nT_of hn hn2])
    · skip
      refine e_bipush (v := nI 11) dX6_forks_27 (by decide) ?_
      exact e_retI dX6_forks_29 rfl rfl (by rw [fkF, if_pos h1, if_pos h2]) (by rw [fkF, if_pos h1, if_pos h2])
  · skip
    refine e_bipush (v := nI 10) dX6_forks_12 (by decide) ?_
    exact e_retI dX6_forks_14 rfl rfl (by simp [fkF, h1]) (by simp [fkF, h1])
set_option maxRecDepth 100000 in
set_option maxHeartbeats 4000000 in
theorem m_says (hX : MW m X) {t : Nat} {q : Int32} (ht : t < 200) : Ev G 1 uX6_says [.ref X.1, .int (nI t), .int q] (MM m X (kf, vf, lf)) (some (.int (syF kf t q).1)) (MM m X ((syF kf t q).2, vf, lf)) := by
  refine Ev.of (by decide +kernel) (Nat.le_of_ble_eq_true rfl) ?_
  refine e_lvs (lv' := [(0, .ref X.1), (1, .int (nI t)), (2, .int q)]) rfl ?_
  refine e_iload_n 2 dX6_says_0 rfl ?_
  refine e_i2l dX6_says_1 ?_
  refine e_lconst (v := lN 0) dX6_says_2 (by decide) ?_
  refine e_ldc2 dX6_says_3 cs_X6_131 ?_
  refine e_lv (w := lN 4) (by decide) ?_
  refine e_callS (st := []) (st1 := [.int (bI (inI q (nI 0) (nI 4)))]) (As := [.long q.toInt64, .long (lN 0), .long (lN 4)]) (m_isInI (x := q) (lo := (nI 0)) (hi := (nI 4)) rfl ((nI_l (by omega)).symm) ((nI_l (by omega)).symm) _) dX6_says_6 (by decide) cm_X6_isIn lk_X6_32 sm_X6_isIn rfl rfl (Nat.le_of_ble_eq_true rfl) rfl ?_
  refine e_if_neB 15 dX6_says_9 (by decide) (fun h1 => ?_) (fun h1 => ?_)
  · skip
    refine e_aload_n 0 dX6_says_15 rfl ?_
    refine e_iload_n 1 dX6_says_16 rfl ?_
    refine e_ic (nI 0) dX6_says_17 (by decide) ?_
    refine e_callV (ci := 6) (st := []) (st1 := [.int (kg kf t 0)]) (As := [.int (nI t), .int (nI 0)]) (m_get hX (kg_lt (by omega) (by omega))) dX6_says_18 (by decide) cm_X6_get lk_X6_36 im_X6_get rfl sel_X6_get hX.1 rfl rfl (Nat.le_of_ble_eq_true rfl) rfl ?_
    refine e_iload_n 2 dX6_says_21 rfl ?_
    refine e_callS (st := []) (st1 := [.int (bI (isOfB (kg kf t 0) q))]) (As := [.int (kg kf t 0), .int q]) (m_isOf (kg kf t 0) q _) dX6_says_22 (by decide) cm_X6_isOf lk_X6_133 sm_X6_isOf rfl rfl (Nat.le_of_ble_eq_true rfl) rfl ?_
    refine e_if_neB 30 dX6_says_25 (by decide) (fun h2 => ?_) (fun h2 => ?_)
    · skip
      refine e_iload_n 2 dX6_says_30 rfl ?_
      refine e_ic (nI 1) dX6_says_31 (by decide) ?_
      refine e_iv (w := 1) rfl ?_
      refine e_icmp_eq 40 dX6_says_32 (by decide) (fun h3 => ?_) (fun h3 => ?_)
      · skip
        refine e_aload_n 0 dX6_says_40 rfl ?_
        refine e_iload_n 1 dX6_says_41 rfl ?_
        refine e_bipush (v := nI 13) dX6_says_42 (by decide) ?_
        refine e_aload_n 0 dX6_says_44 rfl ?_
        refine e_iload_n 1 dX6_says_45 rfl ?_
        refine e_bipush (v := nI 13) dX6_says_46 (by decide) ?_
        refine e_callV (ci := 6) (st := [.int (nI 13), .int (nI t), .ref X.1]) (st1 := [.int (kg kf t 13), .int (nI 13), .int (nI t), .ref X.1]) (As := [.int (nI t), .int (nI 13)]) (m_get hX (kg_lt (by omega) (by omega))) dX6_says_48 (by decide) cm_X6_get lk_X6_36 im_X6_get rfl sel_X6_get hX.1 rfl rfl (Nat.le_of_ble_eq_true rfl) rfl ?_
        refine e_ic (nI 1) dX6_says_51 (by decide) ?_
        refine e_iadd dX6_says_52 ?_
        refine e_callV (ci := 6) (st := []) (st1 := []) (As := [.int (nI t), .int (nI 13), .int ((kg kf t 13) + (nI 1))]) (m_set hX (kg_lt (by omega) (by decide))) dX6_says_53 (by decide) cm_X6_set lk_X6_59 im_X6_set rfl sel_X6_set hX.1 rfl rfl (Nat.le_of_ble_eq_true rfl) rfl ?_
        refine e_ic (nI 0) dX6_says_56 (by decide) ?_
        exact e_retI dX6_says_57 rfl rfl (by rw [syF, if_pos h1, if_pos h2, if_pos (Or.inl h3)]) (by rw [syF, if_pos h1, if_pos h2, if_pos (Or.inl h3)])
      · skip
        refine e_iload_n 2 dX6_says_35 rfl ?_
        refine e_ic (nI 2) dX6_says_36 (by decide) ?_
        refine e_iv (w := 2) rfl ?_
        refine e_icmp_ne 56 dX6_says_37 (by decide) (fun h4 => ?_) (fun h4 => ?_)
        · skip
          refine e_ic (nI 0) dX6_says_56 (by decide) ?_
          exact e_retI dX6_says_57 rfl rfl (by rw [syF, if_pos h1, if_pos h2, if_neg (fun z => z.elim h3 h4)]) (by rw [syF, if_pos h1, if_pos h2, if_neg (fun z => z.elim h3 h4)])
        · skip
          refine e_aload_n 0 dX6_says_40 rfl ?_
          refine e_iload_n 1 dX6_says_41 rfl ?_
          refine e_bipush (v := nI 13) dX6_says_42 (by decide) ?_
          refine e_aload_n 0 dX6_says_44 rfl ?_
          refine e_iload_n 1 dX6_says_45 rfl ?_
          refine e_bipush (v := nI 13) dX6_says_46 (by decide) ?_
          refine e_callV (ci := 6) (st := [.int (nI 13), .int (nI t), .ref X.1]) (st1 := [.int (kg kf t 13), .int (nI 13), .int (nI t), .ref X.1]) (As := [.int (nI t), .int (nI 13)]) (m_get hX (kg_lt (by omega) (by omega))) dX6_says_48 (by decide) cm_X6_get lk_X6_36 im_X6_get rfl sel_X6_get hX.1 rfl rfl (Nat.le_of_ble_eq_true rfl) rfl ?_
          refine e_ic (nI 1) dX6_says_51 (by decide) ?_
          refine e_iadd dX6_says_52 ?_
          refine e_callV (ci := 6) (st := []) (st1 := []) (As := [.int (nI t), .int (nI 13), .int ((kg kf t 13) + (nI 1))]) (m_set hX (kg_lt (by omega) (by decide))) dX6_says_53 (by decide) cm_X6_set lk_X6_59 im_X6_set rfl sel_X6_set hX.1 rfl rfl (Nat.le_of_ble_eq_true rfl) rfl ?_
          refine e_ic (nI 0) dX6_says_56 (by decide) ?_
          exact e_retI dX6_says_57 rfl rfl (by rw [syF, if_pos h1, if_pos h2, if_pos (Or.inr h4)]) (by rw [syF, if_pos h1, if_pos h2, if_pos (Or.inr h4)])
    · skip
      refine e_ic (nI 3) dX6_says_28 (by decide) ?_
      exact e_retI dX6_says_29 rfl rfl (by simp [syF, h1, h2]) (by simp [syF, h1, h2])
  · skip
    refine e_bipush (v := nI 10) dX6_says_12 (by decide) ?_
    exact e_retI dX6_says_14 rfl rfl (by simp [syF, h1]) (by simp [syF, h1])
set_option maxRecDepth 100000 in
set_option maxHeartbeats 4000000 in
theorem m_smalls (hX : MW m X) {n t : Nat} {op q : Int32} (ht : t < 200) (htn : t < n) (hm : HM kf n) (hq : ∀ b, q = nI b → b ≤ 127 ∨ 2 ^ 31 ≤ b) : Ev G 1 uX6_smalls [.ref X.1, .int (nI t), .int op, .int q] (MM m X (kf, vf, lf)) (some (.int (smF kf t op q).1)) (MM m X ((smF kf t op q).2, vf, lf)) := by
  refine Ev.of (by decide +kernel) (Nat.le_of_ble_eq_true rfl) ?_
  refine e_lvs (lv' := [(0, .ref X.1), (1, .int (nI t)), (2, .int op), (3, .int q)]) rfl ?_
  refine e_iload_n 2 dX6_smalls_0 rfl ?_
  refine e_bipush (v := nI 8) dX6_smalls_1 (by decide) ?_
  refine e_iv (w := 8) rfl ?_
  refine e_icmp_ne 68 dX6_smalls_3 (by decide) (fun h1 => ?_) (fun h1 => ?_)
  · skip
    refine e_aload_n 0 dX6_smalls_68 rfl ?_
    refine e_iload_n 1 dX6_smalls_69 rfl ?_
    refine e_bipush (v := nI 14) dX6_smalls_70 (by decide) ?_
    refine e_callV (ci := 6) (st := []) (st1 := [.int (kg kf t 14)]) (As := [.int (nI t), .int (nI 14)]) (m_get hX (kg_lt (by omega) (by omega))) dX6_smalls_72 (by decide) cm_X6_get lk_X6_36 im_X6_get rfl sel_X6_get hX.1 rfl rfl (Nat.le_of_ble_eq_true rfl) rfl ?_
    refine e_if_ge 81 dX6_smalls_75 (by decide) (fun h5 => ?_) (fun h5 => ?_)
    · skip
      have h5' := Int32.not_lt.mpr h5
      refine e_iload_n 3 dX6_smalls_81 rfl ?_
      refine e_i2l dX6_smalls_82 ?_
      refine e_lconst (v := lN 0) dX6_smalls_83 (by decide) ?_
      refine e_aload_n 0 dX6_smalls_84 rfl ?_
      refine e_iload_n 1 dX6_smalls_85 rfl ?_
      refine e_bipush (v := nI 14) dX6_smalls_86 (by decide) ?_
      refine e_callV (ci := 6) (st := [.long (lN 0), .long q.toInt64]) (st1 := [.int (kg kf t 14), .long (lN 0), .long q.toInt64]) (As := [.int (nI t), .int (nI 14)]) (m_get hX (kg_lt (by omega) (by omega))) dX6_smalls_88 (by decide) cm_X6_get lk_X6_36 im_X6_get rfl sel_X6_get hX.1 rfl rfl (Nat.le_of_ble_eq_true rfl) rfl ?_
      refine e_ic (nI 1) dX6_smalls_91 (by decide) ?_
      refine e_isub dX6_smalls_92 ?_
      refine e_i2l dX6_smalls_93 ?_
      refine e_callS (st := []) (st1 := [.int (bI (inI q (nI 0) ((kg kf t 14) - (nI 1))))]) (As := [.long q.toInt64, .long (lN 0), .long (((kg kf t 14) - (nI 1)).toInt64)]) (m_isInI (x := q) (lo := (nI 0)) (hi := ((kg kf t 14) - (nI 1))) rfl ((nI_l (by omega)).symm) rfl _) dX6_smalls_94 (by decide) cm_X6_isIn lk_X6_32 sm_X6_isIn rfl rfl (Nat.le_of_ble_eq_true rfl) rfl ?_
      refine e_if_neB 103 dX6_smalls_97 (by decide) (fun h6 => ?_) (fun h6 => ?_)
      · skip
        obtain ⟨b, hb, rfl⟩ : ∃ b, b < 127 ∧ q = nI b := (hm t htn).elim (fun z => absurd h6 (fun y => inc_m z y)) (fun ⟨c, hc, z⟩ => by obtain ⟨k, hk, e⟩ := inc_n z (by omega) h6; exact ⟨k, by omega, e⟩)
        have cb : (nI b).toNatClampNeg = b := nI_clamp (by omega)
        refine e_sipush (v := nI 4400) dX6_smalls_103 (by decide) ?_
        refine e_sipush (v := nI 128) dX6_smalls_106 (by decide) ?_
        refine e_iload_n 1 dX6_smalls_109 rfl ?_
        refine e_imulN dX6_smalls_110 ?_
        refine e_iaddN dX6_smalls_111 ?_
        refine e_iload_n 3 dX6_smalls_112 rfl ?_
        refine e_iaddN dX6_smalls_113 ?_
        refine e_istore (lv' := [(4, .int (nI ((4400 + (128 * t)) + b))), (0, .ref X.1), (1, .int (nI t)), (2, .int op), (3, .int (nI b))]) dX6_smalls_114 (by decide) rfl ?_
        refine e_iload_n 3 dX6_smalls_116 rfl ?_
        refine e_bipush (v := nI 9) dX6_smalls_117 (by decide) ?_
        refine e_iv (w := 9) rfl ?_
        refine e_icmp_ne 139 dX6_smalls_119 (by decide) (fun h7 => ?_) (fun h7 => ?_)
        · skip
          refine e_aload_n 1 dX6_smalls_139 rfl ?_
          refine e_mk hX dX6_smalls_140 fl_X6_8 ?_
          refine e_iload 0 dX6_smalls_143 rfl ?_
          refine e_kld hX dX6_smalls_145 (by omega) ?_
          refine e_if_le 162 dX6_smalls_146 (by decide) (fun h8 => ?_) (fun h8 => ?_)
          · skip
            have h8' := Int32.not_lt.mpr h8
            refine e_ic (nI 0) dX6_smalls_162 (by decide) ?_
            exact e_retI dX6_smalls_163 rfl rfl (by simp [smF, h1, h5, h5', h6, h7, h8, h8', cb]) (by simp [smF, h1, h5, h5', h6, h7, h8, h8', cb])
          · skip
            have h8' := Int32.not_le.mp h8
            refine e_aload_n 1 dX6_smalls_149 rfl ?_
            refine e_iload_n 2 dX6_smalls_150 rfl ?_
            refine e_ic (nI 4) dX6_smalls_151 (by decide) ?_
            refine e_aload_n 1 dX6_smalls_152 rfl ?_
            refine e_mk hX dX6_smalls_153 fl_X6_8 ?_
            refine e_iload 0 dX6_smalls_156 rfl ?_
            refine e_kld hX dX6_smalls_158 (by omega) ?_
            refine e_callV (ci := 6) (st := []) (st1 := []) (As := [.int (nI t), .int (nI 4), .int (kf ((4400 + (128 * t)) + b))]) (m_set hX (kg_lt (by omega) (by decide))) dX6_smalls_159 (by decide) cm_X6_set lk_X6_59 im_X6_set rfl sel_X6_set hX.1 rfl rfl (Nat.le_of_ble_eq_true rfl) rfl ?_
            refine e_ic (nI 0) dX6_smalls_162 (by decide) ?_
            exact e_retI dX6_smalls_163 rfl rfl (by simp [smF, h1, h5, h5', h6, h7, h8, h8', cb]) (by simp [smF, h1, h5, h5', h6, h7, h8, h8', cb])
        · skip
          refine e_aload_n 1 dX6_smalls_122 rfl ?_
          refine e_mk hX dX6_smalls_123 fl_X6_8 ?_
          refine e_iload 0 dX6_smalls_126 rfl ?_
          refine e_aload_n 1 dX6_smalls_128 rfl ?_
          refine e_mk hX dX6_smalls_129 fl_X6_8 ?_
          refine e_ic (nI 0) dX6_smalls_132 (by decide) ?_
          refine e_kld hX dX6_smalls_133 (by omega) ?_
          refine e_i2s dX6_smalls_134 ?_
          refine e_kst hX dX6_smalls_135 (by omega) ?_
          refine e_goto 162 dX6_smalls_136 (by decide) ?_
          refine e_ic (nI 0) dX6_smalls_162 (by decide) ?_
          exact e_retI dX6_smalls_163 rfl rfl (by simp [smF, h1, h5, h5', h6, h7, cb]) (by simp [smF, h1, h5, h5', h6, h7, cb])
      · skip
        refine e_bipush (v := nI 9) dX6_smalls_100 (by decide) ?_
        exact e_retI dX6_smalls_102 rfl rfl (by simp [smF, h1, h5, h5', h6]) (by simp [smF, h1, h5, h5', h6])
    · skip
      have h5' := Int32.not_le.mp h5
      refine e_bipush (v := nI 8) dX6_smalls_78 (by decide) ?_
      exact e_retI dX6_smalls_80 rfl rfl (by simp [smF, h1, h5, h5']) (by simp [smF, h1, h5, h5'])
  · skip
    refine e_aload_n 0 dX6_smalls_6 rfl ?_
    refine e_iload_n 1 dX6_smalls_7 rfl ?_
    refine e_bipush (v := nI 14) dX6_smalls_8 (by decide) ?_
    refine e_callV (ci := 6) (st := []) (st1 := [.int (kg kf t 14)]) (As := [.int (nI t), .int (nI 14)]) (m_get hX (kg_lt (by omega) (by omega))) dX6_smalls_10 (by decide) cm_X6_get lk_X6_36 im_X6_get rfl sel_X6_get hX.1 rfl rfl (Nat.le_of_ble_eq_true rfl) rfl ?_
    refine e_if_lt 19 dX6_smalls_13 (by decide) (fun h2 => ?_) (fun h2 => ?_)
    · skip
      have h2' := Int32.not_le.mpr h2
      refine e_iload_n 3 dX6_smalls_19 rfl ?_
      refine e_if_ge 25 dX6_smalls_20 (by decide) (fun g20 => ?_) (fun g20 => ?_)
      · skip
        have g20' := Int32.not_lt.mpr g20
        obtain ⟨b, hb, rfl⟩ := nI_of (Int32.not_lt.mpr g20)
        have cb : (nI b).toNatClampNeg = b := nI_clamp (by omega)
        have h3 := Int32.not_lt.mpr g20
        have hb2 : b ≤ 127 := by have := hq b rfl; omega
        refine e_aload_n 0 dX6_smalls_25 rfl ?_
        refine e_iload_n 1 dX6_smalls_26 rfl ?_
        refine e_bipush (v := nI 14) dX6_smalls_27 (by decide) ?_
        refine e_iload_n 3 dX6_smalls_29 rfl ?_
        refine e_callV (ci := 6) (st := []) (st1 := []) (As := [.int (nI t), .int (nI 14), .int (nI b)]) (m_set hX (kg_lt (by omega) (by decide))) dX6_smalls_30 (by decide) cm_X6_set lk_X6_59 im_X6_set rfl sel_X6_set hX.1 rfl rfl (Nat.le_of_ble_eq_true rfl) rfl ?_
        refine e_ic (nI 0) dX6_smalls_33 (by decide) ?_
        refine e_istore (lv' := [(4, .int (nI 0)), (0, .ref X.1), (1, .int (nI t)), (2, .int op), (3, .int (nI b))]) dX6_smalls_34 (by decide) rfl ?_
        have L : ∀ (k i : Nat), i + k = b → EvB G 1 uX6_smalls (zz (MM m X (kf, vf, lf))) (nn (MM m X (kf, vf, lf))) (some (.int (smF kf t op (nI b)).1)) (MM m X ((smF kf t op (nI b)).2, vf, lf)) 36 [(4, .int (nI i)), (0, .ref X.1), (1, .int (nI t)), (2, .int op), (3, .int (nI b))] [] (MM m X ((lp (fun i k => upd k (4400 + 128 * t + i) (nI 0)) i (ks kf t 14 (nI b))), vf, lf)) := by
          intro k
          induction k with
          | zero =>
            intro i hi
            refine e_iload 0 dX6_smalls_36 rfl ?_
            refine e_iload_n 4 dX6_smalls_38 rfl ?_
            refine e_icmp_geN 66 dX6_smalls_39 (by decide) (by omega) (by omega) (fun _ => ?_) (fun h => absurd h (by omega))
            refine e_ic (nI 0) dX6_smalls_66 (by decide) ?_
            exact e_retI dX6_smalls_67 rfl rfl (by rw [smF, if_pos h1, if_pos h2, if_neg h3]) (by rw [smF, if_pos h1, if_pos h2, if_neg h3, cb, show i = b by omega])
          | succ k ih =>
            intro i hi
            refine e_iload 0 dX6_smalls_36 rfl ?_
            refine e_iload_n 4 dX6_smalls_38 rfl ?_
            refine e_icmp_geN 66 dX6_smalls_39 (by decide) (by omega) (by omega) (fun h => absurd h (by omega)) (fun _ => ?_)
            refine e_aload_n 1 dX6_smalls_42 rfl ?_
            refine e_mk hX dX6_smalls_43 fl_X6_8 ?_
            refine e_sipush (v := nI 4400) dX6_smalls_46 (by decide) ?_
            refine e_sipush (v := nI 128) dX6_smalls_49 (by decide) ?_
            refine e_iload_n 2 dX6_smalls_52 rfl ?_
            refine e_imulN dX6_smalls_53 ?_
            refine e_iaddN dX6_smalls_54 ?_
            refine e_iload 0 dX6_smalls_55 rfl ?_
            refine e_iaddN dX6_smalls_57 ?_
            refine e_ic (nI 0) dX6_smalls_58 (by decide) ?_
            refine e_kst hX dX6_smalls_59 (by omega) ?_
            refine e_iinc1N (lv' := [(4, .int (nI (i + 1))), (0, .ref X.1), (1, .int (nI t)), (2, .int op), (3, .int (nI b))]) 0 dX6_smalls_60 rfl (by decide) rfl ?_
            refine e_goto 36 dX6_smalls_63 (by decide) ?_
            refine e_sub [0, 1, 2, 3, 4] rfl ?_
            exact ih (i + 1) (by omega)
        refine e_sub [0, 1, 2, 3, 4] rfl ?_
        exact L b 0 (by omega)
      · skip
        have g20' := Int32.not_le.mp g20
        refine e_ic (nI 4) dX6_smalls_23 (by decide) ?_
        exact e_retI dX6_smalls_24 rfl rfl (by simp [smF, h1, h2, h2', g20']) (by simp [smF, h1, h2, h2', g20'])
    · skip
      have h2' := Int32.not_lt.mp h2
      refine e_bipush (v := nI 11) dX6_smalls_16 (by decide) ?_
      exact e_retI dX6_smalls_18 rfl rfl (by simp [smF, h1, h2, h2']) (by simp [smF, h1, h2, h2'])
end Model11
