/-! the class: what a task tells, new tasks, acts -/
theorem ab_lo {kf : KF} {t k : Nat} (hT : tIn kf (nI t) = true) (ht : t < 2 ^ 31) (hk : k < 10 ∨ k = 14) : abR kf (nI t) (nI k) = kg kf t k := by
  rw [abR, hT, inI_of (Nat.zero_le _) (by omega) (by decide), inI_f (by omega) (by decide) (by decide) (by omega), nI_clamp ht, nI_clamp (show k < 2 ^ 31 by omega)]
  rfl
theorem ab_due {kf : KF} {t k : Nat} (hT : tIn kf (nI t) = true) (ht : t < 2 ^ 31) (hk : 10 ≤ k ∧ k ≤ 13) (hd : isDue kf t = true) : abR kf (nI t) (nI k) = kg kf t k := by
  rw [abR, hT, inI_of (Nat.zero_le _) (by omega) (by decide), inI_of hk.1 hk.2 (by decide), nI_clamp ht, hd, nI_clamp (show k < 2 ^ 31 by omega)]
  rfl
theorem ab_not {kf : KF} {t k : Nat} (hT : tIn kf (nI t) = true) (ht : t < 2 ^ 31) (hk : 10 ≤ k ∧ k ≤ 13) (hd : isDue kf t = false) : abR kf (nI t) (nI k) = -1 := by
  rw [abR, hT, inI_of (Nat.zero_le _) (by omega) (by decide), inI_of hk.1 hk.2 (by decide), nI_clamp ht, hd]
  rfl
theorem ab_out {kf : KF} {t : Int32} {x : Int32} (h : inI x (nI 0) (nI 14) = false) : abR kf t x = -1 := by
  rw [abR, h, Bool.and_false]
  rfl
def bgM (m : Mem) (a : Nat) (k p s : Int32) (v : Int64) : Mem := sI (sI (sI (sI (sI (sI (sI (sI (sL (sI (sI (sI m 81 a k) 82 a p) 83 a s) 84 a v) 85 a (nI 0)) 86 a (nI 0)) 87 a (nI 0)) 88 a (nI 0)) 89 a (-1)) 90 a (-1)) 91 a (nI 0)) 96 a (-1)
def spM (m : Mem) (a : Nat) (p b c : Int32) : Mem := sI (sI (sI (sI m 92 a p) 93 a b) 94 a (c + p)) 95 a b
theorem ks_self {kf : KF} {t w : Nat} {x : Int32} (h : kg kf t w = x) : ks kf t w x = kf := by
  subst h
  funext i
  unfold ks upd kg
  split
  · rename_i e
    rw [e]
  · rfl
theorem adK_sp (kf : KF) (t : Nat) (a b s P Q p q : Int32) : spK (adK kf t a b s P Q) t p q (kf 0) = adK kf t a b s p q := by
  have e : ∀ P Q i, i ≠ 400 + 20 * t + 13 → i ≠ 400 + 20 * t + 12 → i ≠ 400 + 20 * t + 11 → i ≠ 400 + 20 * t + 10 → adK kf t a b s P Q i = ks (ks (ks (ks (ks (ks (lp (fun i k => ks k t i (nI 0)) 20 (upd kf 1 (nI (t + 1)))) t 0 a) t 1 b) t 2 s) t 7 (-1)) t 8 (-1)) t 14 (-1) i := fun P Q i h1 h2 h3 h4 => by
    unfold adK
    try dsimp only
    rw [ks_at _ _ _ _ _ h1, ks_at _ _ _ _ _ h2, ks_at _ _ _ _ _ h3, ks_at _ _ _ _ _ h4]
  obtain ⟨-, -, -, -, -, -, -, -, -, -, k10, k11, k12, k13, -⟩ := adK_kg kf t a b s p q
  funext i
  unfold spK
  by_cases h1 : i = 400 + 20 * t + 13
  · subst h1
    exact (upd_eq _ _ _).trans k13.symm
  · rw [ks_at _ _ _ _ _ h1]
    by_cases h2 : i = 400 + 20 * t + 12
    · subst h2
      exact (upd_eq _ _ _).trans k12.symm
    · rw [ks_at _ _ _ _ _ h2]
      by_cases h3 : i = 400 + 20 * t + 11
      · subst h3
        exact (upd_eq _ _ _).trans k11.symm
      · rw [ks_at _ _ _ _ _ h3]
        by_cases h4 : i = 400 + 20 * t + 10
        · subst h4
          exact (upd_eq _ _ _).trans k10.symm
        · rw [ks_at _ _ _ _ _ h4, e _ _ _ h1 h2 h3 h4, e _ _ _ h1 h2 h3 h4]
theorem in_lt {x : Int32} {b : Int32} (h : x < 0) : inI x (nI 0) b = false := decide_eq_false (fun q => absurd q.1 (Int32.not_le.mpr h))
theorem in_ge {j b : Nat} (hj : j < 2 ^ 31) (hb : b < 2 ^ 31) (h : b < j) : inI (nI j) (nI 0) (nI b) = false := inI_f (by omega) (by decide) hb hj
section Class7
variable {G : GG} {Z : Mem × YY} {m : Mem} {Y : YY} {ρ n : Nat} {kf : KF} {vf : VF}

set_option maxRecDepth 100000 in
set_option maxHeartbeats 4000000 in
theorem k_tell (hq : KQ Z m Y ρ kf vf n) {t : Nat} (ht : t < n) (x : Int32) : Ev G 1 uX4_tell [.ref (Y.1 (9 + t)), .int x] m (some (.int (abR kf (nI t) x))) m := by
  refine Ev.of (by decide +kernel) (Nat.le_of_ble_eq_true rfl) ?_
  have hn2 := hq.n2
  have hT : tIn kf (nI t) = true := tIn_of hq.n1 hn2 ht
  refine e_lvs (lv' := [(0, .ref (Y.1 (9 + t))), (1, .int x)]) rfl ?_
  refine e_iload_n 1 dX4_tell_0 rfl ?_
  by_cases hsw : inI x (nI 0) (nI 14) = true
  · skip
    obtain ⟨jsw, hsw1, hsw2, rfl⟩ := inI_n (by decide) (by decide) hsw
    rcases (show jsw = 0 ∨ jsw = 1 ∨ jsw = 2 ∨ jsw = 3 ∨ jsw = 4 ∨ jsw = 5 ∨ jsw = 6 ∨ jsw = 7 ∨ jsw = 8 ∨ jsw = 9 ∨ jsw = 10 ∨ jsw = 11 ∨ jsw = 12 ∨ jsw = 13 ∨ jsw = 14 by omega) with rfl | rfl | rfl | rfl | rfl | rfl | rfl | rfl | rfl | rfl | rfl | rfl | rfl | rfl | rfl
    · skip
      refine e_tabIn (off := 75) 76 dX4_tell_1 (by decide) (by decide) (by decide) (by decide) ?_
      refine e_aload_n 0 dX4_tell_76 rfl ?_
      refine e_getIv (kg kf t 0) dX4_tell_77 fl_X4_9 rfl (hq.Tt (by omega)) (hq.gt (by omega) 0 _ (by decide) rfl) ?_
      exact e_retI dX4_tell_80 rfl rfl (by rw [ab_lo (k := 0) hT (by omega) (by omega)]) rfl
    · skip
      refine e_tabIn (off := 80) 81 dX4_tell_1 (by decide) (by decide) (by decide) (by decide) ?_
      refine e_aload_n 0 dX4_tell_81 rfl ?_
      refine e_getIv (kg kf t 1) dX4_tell_82 fl_X4_15 rfl (hq.Tt (by omega)) (hq.gt (by omega) 1 _ (by decide) rfl) ?_
      exact e_retI dX4_tell_85 rfl rfl (by rw [ab_lo (k := 1) hT (by omega) (by omega)]) rfl
    · skip
      refine e_tabIn (off := 85) 86 dX4_tell_1 (by decide) (by decide) (by decide) (by decide) ?_
      refine e_aload_n 0 dX4_tell_86 rfl ?_
      refine e_getIv (kg kf t 2) dX4_tell_87 fl_X4_18 rfl (hq.Tt (by omega)) (hq.gt (by omega) 2 _ (by decide) rfl) ?_
      exact e_retI dX4_tell_90 rfl rfl (by rw [ab_lo (k := 2) hT (by omega) (by omega)]) rfl
    · skip
      refine e_tabIn (off := 90) 91 dX4_tell_1 (by decide) (by decide) (by decide) (by decide) ?_
      refine e_aload_n 0 dX4_tell_91 rfl ?_
      refine e_getIv (kg kf t 3) dX4_tell_92 fl_X4_25 rfl (hq.Tt (by omega)) (hq.gt (by omega) 3 _ (by decide) rfl) ?_
      exact e_retI dX4_tell_95 rfl rfl (by rw [ab_lo (k := 3) hT (by omega) (by omega)]) rfl
    · skip
      refine e_tabIn (off := 95) 96 dX4_tell_1 (by decide) (by decide) (by decide) (by decide) ?_
      refine e_aload_n 0 dX4_tell_96 rfl ?_
      refine e_getIv (kg kf t 4) dX4_tell_97 fl_X4_28 rfl (hq.Tt (by omega)) (hq.gt (by omega) 4 _ (by decide) rfl) ?_
      exact e_retI dX4_tell_100 rfl rfl (by rw [ab_lo (k := 4) hT (by omega) (by omega)]) rfl
    · skip
      refine e_tabIn (off := 100) 101 dX4_tell_1 (by decide) (by decide) (by decide) (by decide) ?_
      refine e_aload_n 0 dX4_tell_101 rfl ?_
      refine e_getIv (kg kf t 5) dX4_tell_102 fl_X4_31 rfl (hq.Tt (by omega)) (hq.gt (by omega) 5 _ (by decide) rfl) ?_
      exact e_retI dX4_tell_105 rfl rfl (by rw [ab_lo (k := 5) hT (by omega) (by omega)]) rfl
    · skip
      refine e_tabIn (off := 105) 106 dX4_tell_1 (by decide) (by decide) (by decide) (by decide) ?_
      refine e_aload_n 0 dX4_tell_106 rfl ?_
      refine e_getIv (kg kf t 6) dX4_tell_107 fl_X4_34 rfl (hq.Tt (by omega)) (hq.gt (by omega) 6 _ (by decide) rfl) ?_
      exact e_retI dX4_tell_110 rfl rfl (by rw [ab_lo (k := 6) hT (by omega) (by omega)]) rfl
    · skip
      refine e_tabIn (off := 110) 111 dX4_tell_1 (by decide) (by decide) (by decide) (by decide) ?_
      refine e_aload_n 0 dX4_tell_111 rfl ?_
      refine e_getIv (kg kf t 7) dX4_tell_112 fl_X4_37 rfl (hq.Tt (by omega)) (hq.gt (by omega) 7 _ (by decide) rfl) ?_
      exact e_retI dX4_tell_115 rfl rfl (by rw [ab_lo (k := 7) hT (by omega) (by omega)]) rfl
    · skip
      refine e_tabIn (off := 115) 116 dX4_tell_1 (by decide) (by decide) (by decide) (by decide) ?_
      refine e_aload_n 0 dX4_tell_116 rfl ?_
      refine e_getIv (kg kf t 8) dX4_tell_117 fl_X4_40 rfl (hq.Tt (by omega)) (hq.gt (by omega) 8 _ (by decide) rfl) ?_
      exact e_retI dX4_tell_120 rfl rfl (by rw [ab_lo (k := 8) hT (by omega) (by omega)]) rfl
    · skip
      refine e_tabIn (off := 120) 121 dX4_tell_1 (by decide) (by decide) (by decide) (by decide) ?_
      refine e_aload_n 0 dX4_tell_121 rfl ?_
      refine e_getIv (kg kf t 9) dX4_tell_122 fl_X4_43 rfl (hq.Tt (by omega)) (hq.gt (by omega) 9 _ (by decide) rfl) ?_
      exact e_retI dX4_tell_125 rfl rfl (by rw [ab_lo (k := 9) hT (by omega) (by omega)]) rfl
    · skip
      refine e_tabIn (off := 125) 126 dX4_tell_1 (by decide) (by decide) (by decide) (by decide) ?_
      refine e_aload_n 0 dX4_tell_126 rfl ?_
      refine e_callV (ci := 4) (st := []) (st1 := [.int (bI (isDue kf t))]) (As := []) (k_hasDeadline hq ht) dX4_tell_127 (by decide) cm_X4_hasDeadline lk_X4_117 im_X4_hasDeadline rfl sel_X4_hasDeadline (hq.Tt (by omega)) rfl rfl (Nat.le_of_ble_eq_true rfl) rfl ?_
      refine e_if_eqB 140 dX4_tell_130 (by decide) (fun b1 => ?_) (fun b1 => ?_)
      · skip
        refine e_ic ((-1)) dX4_tell_140 (by decide) ?_
        exact e_retI dX4_tell_141 rfl rfl (by rw [ab_not (k := 10) hT (by omega) (by omega) b1]) rfl
      · skip
        refine e_aload_n 0 dX4_tell_133 rfl ?_
        refine e_getIv (kg kf t 10) dX4_tell_134 fl_X4_46 rfl (hq.Tt (by omega)) (hq.gt (by omega) 10 _ (by decide) rfl) ?_
        refine e_goto 141 dX4_tell_137 (by decide) ?_
        exact e_retI dX4_tell_141 rfl rfl (by rw [ab_due (k := 10) hT (by omega) (by omega) b1]) rfl
    · skip
      refine e_tabIn (off := 141) 142 dX4_tell_1 (by decide) (by decide) (by decide) (by decide) ?_
      refine e_aload_n 0 dX4_tell_142 rfl ?_
      refine e_callV (ci := 4) (st := []) (st1 := [.int (bI (isDue kf t))]) (As := []) (k_hasDeadline hq ht) dX4_tell_143 (by decide) cm_X4_hasDeadline lk_X4_117 im_X4_hasDeadline rfl sel_X4_hasDeadline (hq.Tt (by omega)) rfl rfl (Nat.le_of_ble_eq_true rfl) rfl ?_
      refine e_if_eqB 156 dX4_tell_146 (by decide) (fun b1 => ?_) (fun b1 => ?_)
      · skip
        refine e_ic ((-1)) dX4_tell_156 (by decide) ?_
        exact e_retI dX4_tell_157 rfl rfl (by rw [ab_not (k := 11) hT (by omega) (by omega) b1]) rfl
      · skip
        refine e_aload_n 0 dX4_tell_149 rfl ?_
        refine e_getIv (kg kf t 11) dX4_tell_150 fl_X4_49 rfl (hq.Tt (by omega)) (hq.gt (by omega) 11 _ (by decide) rfl) ?_
        refine e_goto 157 dX4_tell_153 (by decide) ?_
        exact e_retI dX4_tell_157 rfl rfl (by rw [ab_due (k := 11) hT (by omega) (by omega) b1]) rfl
    · skip
      refine e_tabIn (off := 157) 158 dX4_tell_1 (by decide) (by decide) (by decide) (by decide) ?_
      refine e_aload_n 0 dX4_tell_158 rfl ?_
      refine e_callV (ci := 4) (st := []) (st1 := [.int (bI (isDue kf t))]) (As := []) (k_hasDeadline hq ht) dX4_tell_159 (by decide) cm_X4_hasDeadline lk_X4_117 im_X4_hasDeadline rfl sel_X4_hasDeadline (hq.Tt (by omega)) rfl rfl (Nat.le_of_ble_eq_true rfl) rfl ?_
      refine e_if_eqB 172 dX4_tell_162 (by decide) (fun b1 => ?_) (fun b1 => ?_)
      · skip
        refine e_ic ((-1)) dX4_tell_172 (by decide) ?_
        exact e_retI dX4_tell_173 rfl rfl (by rw [ab_not (k := 12) hT (by omega) (by omega) b1]) rfl
      · skip
        refine e_aload_n 0 dX4_tell_165 rfl ?_
        refine e_getIv (kg kf t 12) dX4_tell_166 fl_X4_52 rfl (hq.Tt (by omega)) (hq.gt (by omega) 12 _ (by decide) rfl) ?_
        refine e_goto 173 dX4_tell_169 (by decide) ?_
        exact e_retI dX4_tell_173 rfl rfl (by rw [ab_due (k := 12) hT (by omega) (by omega) b1]) rfl
    · skip
      refine e_tabIn (off := 173) 174 dX4_tell_1 (by decide) (by decide) (by decide) (by decide) ?_
      refine e_aload_n 0 dX4_tell_174 rfl ?_
      refine e_callV (ci := 4) (st := []) (st1 := [.int (bI (isDue kf t))]) (As := []) (k_hasDeadline hq ht) dX4_tell_175 (by decide) cm_X4_hasDeadline lk_X4_117 im_X4_hasDeadline rfl sel_X4_hasDeadline (hq.Tt (by omega)) rfl rfl (Nat.le_of_ble_eq_true rfl) rfl ?_
      refine e_if_eqB 188 dX4_tell_178 (by decide) (fun b1 => ?_) (fun b1 => ?_)
      · skip
        refine e_ic ((-1)) dX4_tell_188 (by decide) ?_
        exact e_retI dX4_tell_189 rfl rfl (by rw [ab_not (k := 13) hT (by omega) (by omega) b1]) rfl
      · skip
        refine e_aload_n 0 dX4_tell_181 rfl ?_
        refine e_getIv (kg kf t 13) dX4_tell_182 fl_X4_55 rfl (hq.Tt (by omega)) (hq.gt (by omega) 13 _ (by decide) rfl) ?_
        refine e_goto 189 dX4_tell_185 (by decide) ?_
        exact e_retI dX4_tell_189 rfl rfl (by rw [ab_due (k := 13) hT (by omega) (by omega) b1]) rfl
    · skip
      refine e_tabIn (off := 189) 190 dX4_tell_1 (by decide) (by decide) (by decide) (by decide) ?_
      refine e_aload_n 0 dX4_tell_190 rfl ?_
      refine e_getIv (kg kf t 14) dX4_tell_191 fl_X4_58 rfl (hq.Tt (by omega)) (hq.gt (by omega) 14 _ (by decide) rfl) ?_
      exact e_retI dX4_tell_194 rfl rfl (by rw [ab_lo (k := 14) hT (by omega) (by omega)]) rfl
  · skip
    rw [Bool.not_eq_true] at hsw
    refine e_tabOut 195 dX4_tell_1 (inI_out (a := 0) (b := 14) (by decide) (by decide) hsw) (by decide) ?_
    refine e_ic ((-1)) dX4_tell_195 (by decide) ?_
    exact e_retI dX4_tell_196 rfl rfl (by rw [ab_out hsw]) rfl

set_option maxRecDepth 100000 in
set_option maxHeartbeats 4000000 in
theorem x_begin {G : GG} {m : Mem} {a : Nat} (ht : gT m a = 5) (k p s : Int32) (v : Int64) : Ev G 0 uX4_begin [.ref a, .int k, .int p, .int s, .long v] m none (bgM m a k p s v) := by
  refine Ev.of (by decide +kernel) (Nat.le_of_ble_eq_true rfl) ?_
  refine e_lvs (lv' := [(0, .ref a), (1, .int k), (2, .int p), (3, .int s), (4, .long v)]) rfl ?_
  refine e_aload_n 0 dX4_begin_0 rfl ?_
  refine e_iload_n 1 dX4_begin_1 rfl ?_
  refine e_putI (ci := 4) (k := 1) dX4_begin_2 fl_X4_9 rfl (fun q h => by cases h; rfl) ⟨rfl, rfl⟩ ht ?_
  refine e_aload_n 0 dX4_begin_5 rfl ?_
  refine e_iload_n 2 dX4_begin_6 rfl ?_
  refine e_putI (ci := 4) (k := 2) dX4_begin_7 fl_X4_15 rfl (fun q h => by cases h; rfl) ⟨rfl, rfl⟩ ht ?_
  refine e_aload_n 0 dX4_begin_10 rfl ?_
  refine e_iload_n 3 dX4_begin_11 rfl ?_
  refine e_putI (ci := 4) (k := 3) dX4_begin_12 fl_X4_18 rfl (fun q h => by cases h; rfl) ⟨rfl, rfl⟩ ht ?_
  refine e_aload_n 0 dX4_begin_15 rfl ?_
  refine e_lload 4 dX4_begin_16 rfl ?_
  refine e_putL (ci := 4) (k := 4) dX4_begin_18 fl_X4_21 rfl (fun q h => by cases h; rfl) ⟨rfl, rfl⟩ ht ?_
  refine e_aload_n 0 dX4_begin_21 rfl ?_
  refine e_ic (nI 0) dX4_begin_22 (by decide) ?_
  refine e_putI (ci := 4) (k := 5) dX4_begin_23 fl_X4_25 rfl (fun q h => by cases h; rfl) ⟨rfl, rfl⟩ ht ?_
  refine e_aload_n 0 dX4_begin_26 rfl ?_
  refine e_ic (nI 0) dX4_begin_27 (by decide) ?_
  refine e_putI (ci := 4) (k := 6) dX4_begin_28 fl_X4_28 rfl (fun q h => by cases h; rfl) ⟨rfl, rfl⟩ ht ?_
  refine e_aload_n 0 dX4_begin_31 rfl ?_
  refine e_ic (nI 0) dX4_begin_32 (by decide) ?_
  refine e_putI (ci := 4) (k := 7) dX4_begin_33 fl_X4_31 rfl (fun q h => by cases h; rfl) ⟨rfl, rfl⟩ ht ?_
  refine e_aload_n 0 dX4_begin_36 rfl ?_
  refine e_ic (nI 0) dX4_begin_37 (by decide) ?_
  refine e_putI (ci := 4) (k := 8) dX4_begin_38 fl_X4_34 rfl (fun q h => by cases h; rfl) ⟨rfl, rfl⟩ ht ?_
  refine e_aload_n 0 dX4_begin_41 rfl ?_
  refine e_ic ((-1)) dX4_begin_42 (by decide) ?_
  refine e_putI (ci := 4) (k := 9) dX4_begin_43 fl_X4_37 rfl (fun q h => by cases h; rfl) ⟨rfl, rfl⟩ ht ?_
  refine e_aload_n 0 dX4_begin_46 rfl ?_
  refine e_ic ((-1)) dX4_begin_47 (by decide) ?_
  refine e_putI (ci := 4) (k := 10) dX4_begin_48 fl_X4_40 rfl (fun q h => by cases h; rfl) ⟨rfl, rfl⟩ ht ?_
  refine e_aload_n 0 dX4_begin_51 rfl ?_
  refine e_ic (nI 0) dX4_begin_52 (by decide) ?_
  refine e_putI (ci := 4) (k := 11) dX4_begin_53 fl_X4_43 rfl (fun q h => by cases h; rfl) ⟨rfl, rfl⟩ ht ?_
  refine e_aload_n 0 dX4_begin_56 rfl ?_
  refine e_ic ((-1)) dX4_begin_57 (by decide) ?_
  refine e_putI (ci := 4) (k := 16) dX4_begin_58 fl_X4_58 rfl (fun q h => by cases h; rfl) ⟨rfl, rfl⟩ ht ?_
  exact e_retV dX4_begin_61 rfl rfl

set_option maxRecDepth 100000 in
set_option maxHeartbeats 4000000 in
theorem x_startPeriod {G : GG} {m : Mem} {a : Nat} (ht : gT m a = 5) (p b c : Int32) : Ev G 0 uX4_startPeriod [.ref a, .int p, .int b, .int c] m none (spM m a p b c) := by
  refine Ev.of (by decide +kernel) (Nat.le_of_ble_eq_true rfl) ?_
  refine e_lvs (lv' := [(0, .ref a), (1, .int p), (2, .int b), (3, .int c)]) rfl ?_
  refine e_aload_n 0 dX4_startPeriod_0 rfl ?_
  refine e_iload_n 1 dX4_startPeriod_1 rfl ?_
  refine e_putI (ci := 4) (k := 12) dX4_startPeriod_2 fl_X4_46 rfl (fun q h => by cases h; rfl) ⟨rfl, rfl⟩ ht ?_
  refine e_aload_n 0 dX4_startPeriod_5 rfl ?_
  refine e_iload_n 2 dX4_startPeriod_6 rfl ?_
  refine e_putI (ci := 4) (k := 13) dX4_startPeriod_7 fl_X4_49 rfl (fun q h => by cases h; rfl) ⟨rfl, rfl⟩ ht ?_
  refine e_aload_n 0 dX4_startPeriod_10 rfl ?_
  refine e_iload_n 3 dX4_startPeriod_11 rfl ?_
  refine e_iload_n 1 dX4_startPeriod_12 rfl ?_
  refine e_iadd dX4_startPeriod_13 ?_
  refine e_putI (ci := 4) (k := 14) dX4_startPeriod_14 fl_X4_52 rfl (fun q h => by cases h; rfl) ⟨rfl, rfl⟩ ht ?_
  refine e_aload_n 0 dX4_startPeriod_17 rfl ?_
  refine e_iload_n 2 dX4_startPeriod_18 rfl ?_
  refine e_putI (ci := 4) (k := 15) dX4_startPeriod_19 fl_X4_55 rfl (fun q h => by cases h; rfl) ⟨rfl, rfl⟩ ht ?_
  exact e_retV dX4_startPeriod_22 rfl rfl

theorem KQ.bg (h : KQ Z m Y ρ kf vf n) (hρ : 62000 ≤ ρ) {t : Nat} (ht : n ≤ t) (ht2 : t < 200) (k p s : Int32) (v : Int64) : KQ Z (bgM m (Y.1 (9 + t)) k p s v) Y ρ kf vf n :=
  ((((((((((((h.tx hρ ht ht2 (by omega)).tx hρ ht ht2 (by omega)).tx hρ ht ht2 (by omega)).tv ht ht2).tx hρ ht ht2 (by omega)).tx hρ ht ht2 (by omega)).tx hρ ht ht2 (by omega)).tx hρ ht ht2 (by omega)).tx hρ ht ht2 (by omega)).tx hρ ht ht2 (by omega)).tx hρ ht ht2 (by omega)).tx hρ ht ht2 (by omega))
theorem KQ.sp (h : KQ Z m Y ρ kf vf n) (hρ : 62000 ≤ ρ) {t : Nat} (ht : n ≤ t) (ht2 : t < 200) (p b c : Int32) : KQ Z (spM m (Y.1 (9 + t)) p b c) Y ρ kf vf n :=
  (((h.tx hρ ht ht2 (by omega)).tx hρ ht ht2 (by omega)).tx hρ ht ht2 (by omega)).tx hρ ht ht2 (by omega)
theorem gI_sI (m : Mem) (f a : Nat) (x : Int32) (f2 a2 : Nat) : gI (sI m f a x) f2 a2 = if f2 = f then (if a2 = a then x else gI m f2 a2) else gI m f2 a2 := (Eq.refl _).trans (Eq.refl _)
theorem gI_sL (m : Mem) (f a : Nat) (x : Int64) (f2 a2 : Nat) : gI (sL m f a x) f2 a2 = gI m f2 a2 := (Eq.refl _).trans (Eq.refl _)
theorem gL_sL (m : Mem) (f a : Nat) (x : Int64) (f2 a2 : Nat) : gL (sL m f a x) f2 a2 = if f2 = f then (if a2 = a then x else gL m f2 a2) else gL m f2 a2 := (Eq.refl _).trans (Eq.refl _)
theorem gL_sI (m : Mem) (f a : Nat) (x : Int32) (f2 a2 : Nat) : gL (sI m f a x) f2 a2 = gL m f2 a2 := (Eq.refl _).trans (Eq.refl _)
theorem bs_f (m : Mem) (a : Nat) (kf : KF) (t : Nat) (k p s P B : Int32) (v : Int64) : ∀ w, w < 15 → gI (spM (bgM m a k p s v) a P B (kf 0)) (tf w) a = kg (adK kf t k p s P B) t w := by
  intro w hw
  obtain ⟨k0, k1, k2, k3, k4, k5, k6, k7, k8, k9, k10, k11, k12, k13, k14⟩ := adK_kg kf t k p s P B
  rcases (show w = 0 ∨ w = 1 ∨ w = 2 ∨ w = 3 ∨ w = 4 ∨ w = 5 ∨ w = 6 ∨ w = 7 ∨ w = 8 ∨ w = 9 ∨ w = 10 ∨ w = 11 ∨ w = 12 ∨ w = 13 ∨ w = 14 by omega) with rfl | rfl | rfl | rfl | rfl | rfl | rfl | rfl | rfl | rfl | rfl | rfl | rfl | rfl | rfl
  · rw [k0]
    simp [spM, bgM, gI_sI, gI_sL, tf]
  · rw [k1]
    simp [spM, bgM, gI_sI, gI_sL, tf]
  · rw [k2]
    simp [spM, bgM, gI_sI, gI_sL, tf]
  · rw [k3]
    simp [spM, bgM, gI_sI, gI_sL, tf]
  · rw [k4]
    simp [spM, bgM, gI_sI, gI_sL, tf]
  · rw [k5]
    simp [spM, bgM, gI_sI, gI_sL, tf]
  · rw [k6]
    simp [spM, bgM, gI_sI, gI_sL, tf]
  · rw [k7]
    simp [spM, bgM, gI_sI, gI_sL, tf]
  · rw [k8]
    simp [spM, bgM, gI_sI, gI_sL, tf]
  · rw [k9]
    simp [spM, bgM, gI_sI, gI_sL, tf]
  · rw [k10]
    simp [spM, bgM, gI_sI, gI_sL, tf]
  · rw [k11]
    simp [spM, bgM, gI_sI, gI_sL, tf]
  · rw [k12]
    simp [spM, bgM, gI_sI, gI_sL, tf]
  · rw [k13]
    simp [spM, bgM, gI_sI, gI_sL, tf]
  · rw [k14]
    simp [spM, bgM, gI_sI, gI_sL, tf]
theorem bs_v (m : Mem) (a : Nat) (k p s P B c : Int32) (v : Int64) : gL (spM (bgM m a k p s v) a P B c) 84 a = v := by simp [spM, bgM, gL_sI, gL_sL]

set_option maxRecDepth 100000 in
set_option maxHeartbeats 4000000 in
theorem k_addTask (hq : KQ Z m Y ρ kf vf n) (hρ : 62000 ≤ ρ) (hn3 : n < 200) (a b s : Int32) : EvC G 1 uX0_addTask [.ref (Y.1 0), .int a, .int b, .int s] m (fun r mm => r = some (.int (nI n)) ∧ KQ Z mm Y ρ (adK kf n a b s (nI 100) (nI 0)) (vp_updL vf n (lvF kf vf n).2) (n + 1)) := by
  refine EvC.of (by decide +kernel) (Nat.le_of_ble_eq_true rfl) ?_
  have hn2 := hq.n2
  refine r_go (fun kk => e_lvs (lv' := [(0, .ref (Y.1 0)), (1, .int a), (2, .int b), (3, .int s)]) rfl kk) ?_
  refine r_go (fun kk => e_aload_n 0 dX0_addTask_0 rfl kk) ?_
  refine r_go (fun kk => e_getIv (nI n) dX0_addTask_1 fl_X0_43 rfl (hq.T 0 (by decide)) hq.n7 kk) ?_
  refine r_go (fun kk => e_sipush (v := nI 200) dX0_addTask_4 (by decide) kk) ?_
  refine r_go (fun kk => e_icmp_ltN 12 dX0_addTask_7 (by decide) (by omega) (by omega) (fun _ => kk) (fun h => absurd h (by omega))) ?_
  refine r_go (fun kk => e_aload_n 0 dX0_addTask_12 rfl kk) ?_
  refine r_go (fun kk => e_getP (some (Y.1 1)) dX0_addTask_13 fl_X0_11 rfl (hq.T 0 (by decide)) (hq.1.2.2.1.1) kk) ?_
  refine r_go (fun kk => e_aload_n 0 dX0_addTask_16 rfl kk) ?_
  refine r_go (fun kk => e_getIv (nI n) dX0_addTask_17 fl_X0_43 rfl (hq.T 0 (by decide)) hq.n7 kk) ?_
  refine r_go (fun kk => e_aaldN (some (Y.1 (9 + n))) dX0_addTask_20 (hq.T 1 (by decide)) (Or.inr rfl) (by rw [hq.1.2.1.1]; exact (by omega)) (by rw [hq.1.2.1.1]; decide) (hq.pt (by omega)) kk) ?_
  refine r_go (fun kk => e_astore (lv' := [(4, .ref (Y.1 (9 + n))), (0, .ref (Y.1 0)), (1, .int a), (2, .int b), (3, .int s)]) dX0_addTask_21 (by decide) rfl kk) ?_
  refine r_go (fun kk => e_aload 0 dX0_addTask_23 rfl kk) ?_
  refine r_go (fun kk => e_iload_n 2 dX0_addTask_25 rfl kk) ?_
  refine r_go (fun kk => e_iload_n 3 dX0_addTask_26 rfl kk) ?_
  refine r_go (fun kk => e_iload_n 4 dX0_addTask_27 rfl kk) ?_
  refine r_go (fun kk => e_aload_n 1 dX0_addTask_28 rfl kk) ?_
  refine r_go (fun kk => e_callV (ci := 0) (st := [.int s, .int b, .int a, .ref (Y.1 (9 + n))]) (st1 := [.long ((lvF kf vf n).2), .int s, .int b, .int a, .ref (Y.1 (9 + n))]) (As := []) (k_leastVirtual hq) dX0_addTask_29 (by decide) cm_X0_leastVirtual lk_X0_96 im_X0_leastVirtual rfl sel_X0_leastVirtual (hq.T 0 (by decide)) rfl rfl (Nat.le_of_ble_eq_true rfl) rfl kk) ?_
  refine r_go (fun kk => e_callV (ci := 4) (st := []) (st1 := []) (As := [.int a, .int b, .int s, .long ((lvF kf vf n).2)]) (x_begin (G := G) (hq.Tt (by omega)) a b s (lvF kf vf n).2) dX0_addTask_32 (by decide) cm_X4_begin lk_X0_100 im_X4_begin rfl sel_X4_begin (hq.Tt (by omega)) rfl rfl (Nat.le_of_ble_eq_true rfl) rfl kk) ?_
  have hq1 := hq.bg hρ (t := n) (Nat.le_refl _) hn3 a b s (lvF kf vf n).2
  refine r_go (fun kk => e_aload 0 dX0_addTask_35 rfl kk) ?_
  refine r_go (fun kk => e_bipush (v := nI 100) dX0_addTask_37 (by decide) kk) ?_
  refine r_go (fun kk => e_ic (nI 0) dX0_addTask_39 (by decide) kk) ?_
  refine r_go (fun kk => e_aload_n 1 dX0_addTask_40 rfl kk) ?_
  refine r_go (fun kk => e_getIv (kf 0) dX0_addTask_41 fl_X0_47 rfl (hq1.T 0 (by decide)) hq1.2.1.1.1 kk) ?_
  refine r_go (fun kk => e_callV (ci := 4) (st := []) (st1 := []) (As := [.int (nI 100), .int (nI 0), .int (kf 0)]) (x_startPeriod (G := G) (m := bgM m (Y.1 (9 + n)) a b s (lvF kf vf n).2) (hq1.Tt (by omega)) (nI 100) (nI 0) (kf 0)) dX0_addTask_44 (by decide) cm_X4_startPeriod lk_X0_104 im_X4_startPeriod rfl sel_X4_startPeriod (hq1.Tt (by omega)) rfl rfl (Nat.le_of_ble_eq_true rfl) rfl kk) ?_
  have hq2 := hq1.sp hρ (t := n) (Nat.le_refl _) hn3 (nI 100) (nI 0) (kf 0)
  refine r_go (fun kk => e_aload_n 1 dX0_addTask_47 rfl kk) ?_
  refine r_go (fun kk => e_dup dX0_addTask_48 rfl kk) ?_
  refine r_go (fun kk => e_getIv (nI n) dX0_addTask_49 fl_X0_43 rfl (hq2.T 0 (by decide)) hq2.n7 kk) ?_
  refine r_go (fun kk => e_ic (nI 1) dX0_addTask_52 (by decide) kk) ?_
  refine r_go (fun kk => e_iaddN dX0_addTask_53 kk) ?_
  refine r_go (fun kk => e_putI (ci := 0) (k := 7) dX0_addTask_54 fl_X0_43 rfl (fun q h => by cases h; rfl) ⟨rfl, rfl⟩ (hq2.T 0 (by decide)) kk) ?_
  refine r_gen (fun mm => KQ Z mm Y ρ (adK kf n a b s (nI 100) (nI 0)) (vp_updL vf n (lvF kf vf n).2) (n + 1)) (hq2.ad hρ hn3 (fun j h1 h2 => adK_at _ _ _ _ _ _ _ _ (by omega) h1) (adK_1 _ _ _ _ _ _ _) (bs_f m _ kf n a b s _ _ _) (adK_kg kf n a b s _ _).2.2.2.2.2.2.2.2.2.2.2.2.2.2 ((bs_v m _ _ _ _ _ _ _ _).trans (by simp [vp_updL])) (fun t ht => by simp [vp_updL, Nat.ne_of_lt ht])) (fun m3 hq3 => ?_)
  refine r_go (fun kk => e_aload 0 dX0_addTask_57 rfl kk) ?_
  refine r_go (fun kk => e_getIv (nI n) dX0_addTask_59 fl_X0_108 rfl (hq3.Tt (by omega)) (hq3.gno (by omega)) kk) ?_
  exact r_ret (⟨rfl, hq3⟩) (e_retI dX0_addTask_62 rfl rfl rfl)

set_option maxRecDepth 100000 in
set_option maxHeartbeats 4000000 in
theorem k_addTaskF (hq : KQ Z m Y ρ kf vf n) (hn3 : n = 200) (a b s : Int32) : Ev G 1 uX0_addTask [.ref (Y.1 0), .int a, .int b, .int s] m (some (.int (-1))) m := by
  refine Ev.of (by decide +kernel) (Nat.le_of_ble_eq_true rfl) ?_
  have hn2 := hq.n2
  refine e_lvs (lv' := [(0, .ref (Y.1 0)), (1, .int a), (2, .int b), (3, .int s)]) rfl ?_
  refine e_aload_n 0 dX0_addTask_0 rfl ?_
  refine e_getIv (nI n) dX0_addTask_1 fl_X0_43 rfl (hq.T 0 (by decide)) hq.n7 ?_
  refine e_sipush (v := nI 200) dX0_addTask_4 (by decide) ?_
  refine e_icmp_ltN 12 dX0_addTask_7 (by decide) (by omega) (by omega) (fun h => absurd h (by omega)) (fun _ => ?_)
  refine e_ic ((-1)) dX0_addTask_10 (by decide) ?_
  exact e_retI dX0_addTask_11 rfl rfl rfl

def bwK (kf : KF) (t : Nat) (a : Int32) : KF :=
  let k1 := ks kf t 6 a
  let k2 := if kg kf t 0 = 3 ∨ kg kf t 0 = 4 then bd k1 4 else k1
  let k3 := if kg kf t 0 = 2 then bd k2 5 else k2
  bd k3 3
theorem bd_ks (kf : KF) (t w b : Nat) (x : Int32) (hb : b < 12) : bd (ks kf t w x) b = ks (bd kf b) t w x := by
  funext i
  unfold bd ks upd
  by_cases h1 : i = 220 + b
  · subst h1
    rw [if_pos rfl, if_neg (by omega), if_neg (by omega), if_pos rfl]
  · rw [if_neg h1]
    by_cases h2 : i = 400 + 20 * t + w
    · rw [if_pos h2, if_pos h2]
    · rw [if_neg h2, if_neg h2, if_neg h1]
theorem wts_bw (kf : KF) (t : Nat) (a b c : Int32) : wts kf t a b c = ks (ks (bwK kf t a) t 7 b) t 8 c := by
  unfold wts bwK
  try dsimp only
  have e : kg (ks (ks (ks kf t 6 a) t 7 b) t 8 c) t 0 = kg kf t 0 := by
    rw [kg_ne _ _ _ _ _ _ (by decide) (by decide) (by decide), kg_ne _ _ _ _ _ _ (by decide) (by decide) (by decide), kg_ne _ _ _ _ _ _ (by decide) (by decide) (by decide)]
  rw [e]
  split
  · split
    · rw [bd_ks _ _ _ _ _ (by decide), bd_ks _ _ _ _ _ (by decide), bd_ks _ _ _ _ _ (by decide), bd_ks _ _ _ _ _ (by decide), bd_ks _ _ _ _ _ (by decide), bd_ks _ _ _ _ _ (by decide)]
    · rw [bd_ks _ _ _ _ _ (by decide), bd_ks _ _ _ _ _ (by decide), bd_ks _ _ _ _ _ (by decide), bd_ks _ _ _ _ _ (by decide)]
  · split
    · rw [bd_ks _ _ _ _ _ (by decide), bd_ks _ _ _ _ _ (by decide), bd_ks _ _ _ _ _ (by decide), bd_ks _ _ _ _ _ (by decide)]
    · rw [bd_ks _ _ _ _ _ (by decide), bd_ks _ _ _ _ _ (by decide)]
theorem kg_bw (kf : KF) (t w : Nat) (a : Int32) (hw : w < 20) (h : w ≠ 6) (s : Nat) : kg (bwK kf t a) s w = kg kf s w := by
  unfold bwK
  try dsimp only
  rw [kg_bd _ _ _ _ (by decide)]
  split
  · rw [kg_bd _ _ _ _ (by decide)]
    split
    · rw [kg_bd _ _ _ _ (by decide)]
      exact kg_ne _ _ _ _ _ _ (by decide) hw h
    · exact kg_ne _ _ _ _ _ _ (by decide) hw h
  · split
    · rw [kg_bd _ _ _ _ (by decide)]
      exact kg_ne _ _ _ _ _ _ (by decide) hw h
    · exact kg_ne _ _ _ _ _ _ (by decide) hw h
theorem bw_at (kf : KF) (t i : Nat) (a : Int32) (h : i < 220) : bwK kf t a i = kf i := by
  have e : ks kf t 6 a i = kf i := ks_at _ _ _ _ _ (by omega)
  unfold bwK
  try dsimp only
  rw [k_bd _ _ _ (by omega)]
  split
  · rw [k_bd _ _ _ (by omega)]
    split
    · rw [k_bd _ _ _ (by omega), e]
    · exact e
  · split
    · rw [k_bd _ _ _ (by omega), e]
    · exact e

set_option maxRecDepth 100000 in
set_option maxHeartbeats 4000000 in
theorem k_beginWait (hq : KQ Z m Y ρ kf vf n) (hρ : 62000 ≤ ρ) {t : Nat} (ht : t < n) (a : Int32) : EvC G 0 uX0_beginWait [.ref (Y.1 0), .ref (Y.1 (9 + t)), .int a] m (fun r mm => r = none ∧ KQ Z mm Y ρ (bwK kf t a) vf n) := by
  refine EvC.of (by decide +kernel) (Nat.le_of_ble_eq_true rfl) ?_
  have hn2 := hq.n2
  refine r_go (fun kk => e_lvs (lv' := [(0, .ref (Y.1 0)), (1, .ref (Y.1 (9 + t))), (2, .int a)]) rfl kk) ?_
  refine r_go (fun kk => e_aload_n 1 dX0_beginWait_0 rfl kk) ?_
  refine r_go (fun kk => e_iload_n 2 dX0_beginWait_1 rfl kk) ?_
  refine r_go (fun kk => e_putI (ci := 4) (k := 8) dX0_beginWait_2 fl_X0_93 rfl (fun q h => by cases h; rfl) ⟨rfl, rfl⟩ (hq.Tt (by omega)) kk) ?_
  refine r_gen (fun mm => KQ Z mm Y ρ (ks kf t 6 a) vf n) (hq.t hρ (by omega) (by decide) rfl) (fun m1 hq1 => ?_)
  refine r_go (fun kk => e_aload_n 1 dX0_beginWait_5 rfl kk) ?_
  refine r_go (fun kk => e_getIv (kg (ks kf t 6 a) t 0) dX0_beginWait_6 fl_X0_204 rfl (hq1.Tt (by omega)) (hq1.gt (by omega) 0 _ (by decide) rfl) kk) ?_
  refine r_go (fun kk => e_ic (nI 3) dX0_beginWait_9 (by decide) kk) ?_
  refine r_go (fun kk => e_iv (w := 3) rfl kk) ?_
  refine r_b1 (fun ka kb => e_icmp_eq 21 dX0_beginWait_10 (by decide) ka kb) (fun q1 => ?_) (fun q1 => ?_)
  · skip
    refine r_go (fun kk => e_aload_n 0 dX0_beginWait_21 rfl kk) ?_
    refine r_go (fun kk => e_getP (some (Y.1 8)) dX0_beginWait_22 fl_X0_40 rfl (hq1.T 0 (by decide)) (hq1.1.2.2.1.2.2.2.2.2.2.1) kk) ?_
    refine r_go (fun kk => e_ic (nI 4) dX0_beginWait_25 (by decide) kk) ?_
    refine r_go (fun kk => e_dup2 dX0_beginWait_26 rfl rfl kk) ?_
    refine r_go (fun kk => e_ialdN ((ks kf t 6 a) (220 + 4)) dX0_beginWait_27 (hq1.T 8 (by decide)) (by rw [hq1.1.2.1.2.2.2.2.2]; exact (by omega)) (by rw [hq1.1.2.1.2.2.2.2.2]; decide) (hq1.2.1.2.1.2.2.1 4 (by omega)) kk) ?_
    refine r_go (fun kk => e_ic (nI 1) dX0_beginWait_28 (by decide) kk) ?_
    refine r_go (fun kk => e_iadd dX0_beginWait_29 kk) ?_
    refine r_go (fun kk => e_iastN _ dX0_beginWait_30 (hq1.T 8 (by decide)) (by rw [hq1.1.2.1.2.2.2.2.2]; exact (by omega)) (by rw [hq1.1.2.1.2.2.2.2.2]; decide) rfl kk) ?_
    refine r_gen (fun mm => KQ Z mm Y ρ (bd (ks kf t 6 a) 4) vf n) (hq1.ra hρ (by omega)) (fun m2 hq2 => ?_)
    refine r_go (fun kk => e_aload_n 1 dX0_beginWait_31 rfl kk) ?_
    refine r_go (fun kk => e_getIv (kg (bd (ks kf t 6 a) 4) t 0) dX0_beginWait_32 fl_X0_204 rfl (hq2.Tt (by omega)) (hq2.gt (by omega) 0 _ (by decide) rfl) kk) ?_
    refine r_go (fun kk => e_ic (nI 2) dX0_beginWait_35 (by decide) kk) ?_
    refine r_go (fun kk => e_iv (w := 2) rfl kk) ?_
    refine r_b2 (fun ka kb => e_icmp_ne 49 dX0_beginWait_36 (by decide) ka kb) (fun q3 => ?_) (fun q3 => ?_)
    · skip
      refine r_go (fun kk => e_aload_n 0 dX0_beginWait_49 rfl kk) ?_
      refine r_go (fun kk => e_getP (some (Y.1 8)) dX0_beginWait_50 fl_X0_40 rfl (hq2.T 0 (by decide)) (hq2.1.2.2.1.2.2.2.2.2.2.1) kk) ?_
      refine r_go (fun kk => e_ic (nI 3) dX0_beginWait_53 (by decide) kk) ?_
      refine r_go (fun kk => e_dup2 dX0_beginWait_54 rfl rfl kk) ?_
      refine r_go (fun kk => e_ialdN ((bd (ks kf t 6 a) 4) (220 + 3)) dX0_beginWait_55 (hq2.T 8 (by decide)) (by rw [hq2.1.2.1.2.2.2.2.2]; exact (by omega)) (by rw [hq2.1.2.1.2.2.2.2.2]; decide) (hq2.2.1.2.1.2.2.1 3 (by omega)) kk) ?_
      refine r_go (fun kk => e_ic (nI 1) dX0_beginWait_56 (by decide) kk) ?_
      refine r_go (fun kk => e_iadd dX0_beginWait_57 kk) ?_
      refine r_go (fun kk => e_iastN _ dX0_beginWait_58 (hq2.T 8 (by decide)) (by rw [hq2.1.2.1.2.2.2.2.2]; exact (by omega)) (by rw [hq2.1.2.1.2.2.2.2.2]; decide) rfl kk) ?_
      refine r_gen (fun mm => KQ Z mm Y ρ (bd (bd (ks kf t 6 a) 4) 3) vf n) (hq2.ra hρ (by omega)) (fun m3 hq3 => ?_)
      rw [kg_ne _ _ _ _ _ _ (by decide) (by decide) (by decide)] at q1
      rw [kg_bd _ _ _ _ (by decide), kg_ne _ _ _ _ _ _ (by decide) (by decide) (by decide)] at q3
      exact r_ret ⟨rfl, by unfold bwK; (try dsimp only); rw [if_pos (Or.inl q1), if_neg q3]; exact hq3⟩ (e_retV dX0_beginWait_59 rfl rfl)
    · skip
      refine r_go (fun kk => e_aload_n 0 dX0_beginWait_39 rfl kk) ?_
      refine r_go (fun kk => e_getP (some (Y.1 8)) dX0_beginWait_40 fl_X0_40 rfl (hq2.T 0 (by decide)) (hq2.1.2.2.1.2.2.2.2.2.2.1) kk) ?_
      refine r_go (fun kk => e_ic (nI 5) dX0_beginWait_43 (by decide) kk) ?_
      refine r_go (fun kk => e_dup2 dX0_beginWait_44 rfl rfl kk) ?_
      refine r_go (fun kk => e_ialdN ((bd (ks kf t 6 a) 4) (220 + 5)) dX0_beginWait_45 (hq2.T 8 (by decide)) (by rw [hq2.1.2.1.2.2.2.2.2]; exact (by omega)) (by rw [hq2.1.2.1.2.2.2.2.2]; decide) (hq2.2.1.2.1.2.2.1 5 (by omega)) kk) ?_
      refine r_go (fun kk => e_ic (nI 1) dX0_beginWait_46 (by decide) kk) ?_
      refine r_go (fun kk => e_iadd dX0_beginWait_47 kk) ?_
      refine r_go (fun kk => e_iastN _ dX0_beginWait_48 (hq2.T 8 (by decide)) (by rw [hq2.1.2.1.2.2.2.2.2]; exact (by omega)) (by rw [hq2.1.2.1.2.2.2.2.2]; decide) rfl kk) ?_
      refine r_gen (fun mm => KQ Z mm Y ρ (bd (bd (ks kf t 6 a) 4) 5) vf n) (hq2.ra hρ (by omega)) (fun m4 hq4 => ?_)
      refine r_go (fun kk => e_aload_n 0 dX0_beginWait_49 rfl kk) ?_
      refine r_go (fun kk => e_getP (some (Y.1 8)) dX0_beginWait_50 fl_X0_40 rfl (hq4.T 0 (by decide)) (hq4.1.2.2.1.2.2.2.2.2.2.1) kk) ?_
      refine r_go (fun kk => e_ic (nI 3) dX0_beginWait_53 (by decide) kk) ?_
      refine r_go (fun kk => e_dup2 dX0_beginWait_54 rfl rfl kk) ?_
      refine r_go (fun kk => e_ialdN ((bd (bd (ks kf t 6 a) 4) 5) (220 + 3)) dX0_beginWait_55 (hq4.T 8 (by decide)) (by rw [hq4.1.2.1.2.2.2.2.2]; exact (by omega)) (by rw [hq4.1.2.1.2.2.2.2.2]; decide) (hq4.2.1.2.1.2.2.1 3 (by omega)) kk) ?_
      refine r_go (fun kk => e_ic (nI 1) dX0_beginWait_56 (by decide) kk) ?_
      refine r_go (fun kk => e_iadd dX0_beginWait_57 kk) ?_
      refine r_go (fun kk => e_iastN _ dX0_beginWait_58 (hq4.T 8 (by decide)) (by rw [hq4.1.2.1.2.2.2.2.2]; exact (by omega)) (by rw [hq4.1.2.1.2.2.2.2.2]; decide) rfl kk) ?_
      refine r_gen (fun mm => KQ Z mm Y ρ (bd (bd (bd (ks kf t 6 a) 4) 5) 3) vf n) (hq4.ra hρ (by omega)) (fun m5 hq5 => ?_)
      rw [kg_ne _ _ _ _ _ _ (by decide) (by decide) (by decide)] at q1
      rw [kg_bd _ _ _ _ (by decide), kg_ne _ _ _ _ _ _ (by decide) (by decide) (by decide)] at q3
      exact r_ret ⟨rfl, by unfold bwK; (try dsimp only); rw [if_pos (Or.inl q1), if_pos q3]; exact hq5⟩ (e_retV dX0_beginWait_59 rfl rfl)
  · skip
    refine r_go (fun kk => e_aload_n 1 dX0_beginWait_13 rfl kk) ?_
    refine r_go (fun kk => e_getIv (kg (ks kf t 6 a) t 0) dX0_beginWait_14 fl_X0_204 rfl (hq1.Tt (by omega)) (hq1.gt (by omega) 0 _ (by decide) rfl) kk) ?_
    refine r_go (fun kk => e_ic (nI 4) dX0_beginWait_17 (by decide) kk) ?_
    refine r_go (fun kk => e_iv (w := 4) rfl kk) ?_
    refine r_b2 (fun ka kb => e_icmp_ne 31 dX0_beginWait_18 (by decide) ka kb) (fun q2 => ?_) (fun q2 => ?_)
    · skip
      refine r_go (fun kk => e_aload_n 1 dX0_beginWait_31 rfl kk) ?_
      refine r_go (fun kk => e_getIv (kg (ks kf t 6 a) t 0) dX0_beginWait_32 fl_X0_204 rfl (hq1.Tt (by omega)) (hq1.gt (by omega) 0 _ (by decide) rfl) kk) ?_
      refine r_go (fun kk => e_ic (nI 2) dX0_beginWait_35 (by decide) kk) ?_
      refine r_go (fun kk => e_iv (w := 2) rfl kk) ?_
      refine r_b2 (fun ka kb => e_icmp_ne 49 dX0_beginWait_36 (by decide) ka kb) (fun q3 => ?_) (fun q3 => ?_)
      · skip
        refine r_go (fun kk => e_aload_n 0 dX0_beginWait_49 rfl kk) ?_
        refine r_go (fun kk => e_getP (some (Y.1 8)) dX0_beginWait_50 fl_X0_40 rfl (hq1.T 0 (by decide)) (hq1.1.2.2.1.2.2.2.2.2.2.1) kk) ?_
        refine r_go (fun kk => e_ic (nI 3) dX0_beginWait_53 (by decide) kk) ?_
        refine r_go (fun kk => e_dup2 dX0_beginWait_54 rfl rfl kk) ?_
        refine r_go (fun kk => e_ialdN ((ks kf t 6 a) (220 + 3)) dX0_beginWait_55 (hq1.T 8 (by decide)) (by rw [hq1.1.2.1.2.2.2.2.2]; exact (by omega)) (by rw [hq1.1.2.1.2.2.2.2.2]; decide) (hq1.2.1.2.1.2.2.1 3 (by omega)) kk) ?_
        refine r_go (fun kk => e_ic (nI 1) dX0_beginWait_56 (by decide) kk) ?_
        refine r_go (fun kk => e_iadd dX0_beginWait_57 kk) ?_
        refine r_go (fun kk => e_iastN _ dX0_beginWait_58 (hq1.T 8 (by decide)) (by rw [hq1.1.2.1.2.2.2.2.2]; exact (by omega)) (by rw [hq1.1.2.1.2.2.2.2.2]; decide) rfl kk) ?_
        refine r_gen (fun mm => KQ Z mm Y ρ (bd (ks kf t 6 a) 3) vf n) (hq1.ra hρ (by omega)) (fun m6 hq6 => ?_)
        rw [kg_ne _ _ _ _ _ _ (by decide) (by decide) (by decide)] at q1
        rw [kg_ne _ _ _ _ _ _ (by decide) (by decide) (by decide)] at q2
        rw [kg_ne _ _ _ _ _ _ (by decide) (by decide) (by decide)] at q3
        exact r_ret ⟨rfl, by unfold bwK; (try dsimp only); rw [if_neg (show ¬ (kg kf t 0 = 3 ∨ kg kf t 0 = 4) from fun z => z.elim q1 q2), if_neg q3]; exact hq6⟩ (e_retV dX0_beginWait_59 rfl rfl)
      · skip
        refine r_go (fun kk => e_aload_n 0 dX0_beginWait_39 rfl kk) ?_
        refine r_go (fun kk => e_getP (some (Y.1 8)) dX0_beginWait_40 fl_X0_40 rfl (hq1.T 0 (by decide)) (hq1.1.2.2.1.2.2.2.2.2.2.1) kk) ?_
        refine r_go (fun kk => e_ic (nI 5) dX0_beginWait_43 (by decide) kk) ?_
        refine r_go (fun kk => e_dup2 dX0_beginWait_44 rfl rfl kk) ?_
        refine r_go (fun kk => e_ialdN ((ks kf t 6 a) (220 + 5)) dX0_beginWait_45 (hq1.T 8 (by decide)) (by rw [hq1.1.2.1.2.2.2.2.2]; exact (by omega)) (by rw [hq1.1.2.1.2.2.2.2.2]; decide) (hq1.2.1.2.1.2.2.1 5 (by omega)) kk) ?_
        refine r_go (fun kk => e_ic (nI 1) dX0_beginWait_46 (by decide) kk) ?_
        refine r_go (fun kk => e_iadd dX0_beginWait_47 kk) ?_
        refine r_go (fun kk => e_iastN _ dX0_beginWait_48 (hq1.T 8 (by decide)) (by rw [hq1.1.2.1.2.2.2.2.2]; exact (by omega)) (by rw [hq1.1.2.1.2.2.2.2.2]; decide) rfl kk) ?_
        refine r_gen (fun mm => KQ Z mm Y ρ (bd (ks kf t 6 a) 5) vf n) (hq1.ra hρ (by omega)) (fun m7 hq7 => ?_)
        refine r_go (fun kk => e_aload_n 0 dX0_beginWait_49 rfl kk) ?_
        refine r_go (fun kk => e_getP (some (Y.1 8)) dX0_beginWait_50 fl_X0_40 rfl (hq7.T 0 (by decide)) (hq7.1.2.2.1.2.2.2.2.2.2.1) kk) ?_
        refine r_go (fun kk => e_ic (nI 3) dX0_beginWait_53 (by decide) kk) ?_
        refine r_go (fun kk => e_dup2 dX0_beginWait_54 rfl rfl kk) ?_
        refine r_go (fun kk => e_ialdN ((bd (ks kf t 6 a) 5) (220 + 3)) dX0_beginWait_55 (hq7.T 8 (by decide)) (by rw [hq7.1.2.1.2.2.2.2.2]; exact (by omega)) (by rw [hq7.1.2.1.2.2.2.2.2]; decide) (hq7.2.1.2.1.2.2.1 3 (by omega)) kk) ?_
        refine r_go (fun kk => e_ic (nI 1) dX0_beginWait_56 (by decide) kk) ?_
        refine r_go (fun kk => e_iadd dX0_beginWait_57 kk) ?_
        refine r_go (fun kk => e_iastN _ dX0_beginWait_58 (hq7.T 8 (by decide)) (by rw [hq7.1.2.1.2.2.2.2.2]; exact (by omega)) (by rw [hq7.1.2.1.2.2.2.2.2]; decide) rfl kk) ?_
        refine r_gen (fun mm => KQ Z mm Y ρ (bd (bd (ks kf t 6 a) 5) 3) vf n) (hq7.ra hρ (by omega)) (fun m8 hq8 => ?_)
        rw [kg_ne _ _ _ _ _ _ (by decide) (by decide) (by decide)] at q1
        rw [kg_ne _ _ _ _ _ _ (by decide) (by decide) (by decide)] at q2
        rw [kg_ne _ _ _ _ _ _ (by decide) (by decide) (by decide)] at q3
        exact r_ret ⟨rfl, by unfold bwK; (try dsimp only); rw [if_neg (show ¬ (kg kf t 0 = 3 ∨ kg kf t 0 = 4) from fun z => z.elim q1 q2), if_pos q3]; exact hq8⟩ (e_retV dX0_beginWait_59 rfl rfl)
    · skip
      refine r_go (fun kk => e_aload_n 0 dX0_beginWait_21 rfl kk) ?_
      refine r_go (fun kk => e_getP (some (Y.1 8)) dX0_beginWait_22 fl_X0_40 rfl (hq1.T 0 (by decide)) (hq1.1.2.2.1.2.2.2.2.2.2.1) kk) ?_
      refine r_go (fun kk => e_ic (nI 4) dX0_beginWait_25 (by decide) kk) ?_
      refine r_go (fun kk => e_dup2 dX0_beginWait_26 rfl rfl kk) ?_
      refine r_go (fun kk => e_ialdN ((ks kf t 6 a) (220 + 4)) dX0_beginWait_27 (hq1.T 8 (by decide)) (by rw [hq1.1.2.1.2.2.2.2.2]; exact (by omega)) (by rw [hq1.1.2.1.2.2.2.2.2]; decide) (hq1.2.1.2.1.2.2.1 4 (by omega)) kk) ?_
      refine r_go (fun kk => e_ic (nI 1) dX0_beginWait_28 (by decide) kk) ?_
      refine r_go (fun kk => e_iadd dX0_beginWait_29 kk) ?_
      refine r_go (fun kk => e_iastN _ dX0_beginWait_30 (hq1.T 8 (by decide)) (by rw [hq1.1.2.1.2.2.2.2.2]; exact (by omega)) (by rw [hq1.1.2.1.2.2.2.2.2]; decide) rfl kk) ?_
      refine r_gen (fun mm => KQ Z mm Y ρ (bd (ks kf t 6 a) 4) vf n) (hq1.ra hρ (by omega)) (fun m9 hq9 => ?_)
      refine r_go (fun kk => e_aload_n 1 dX0_beginWait_31 rfl kk) ?_
      refine r_go (fun kk => e_getIv (kg (bd (ks kf t 6 a) 4) t 0) dX0_beginWait_32 fl_X0_204 rfl (hq9.Tt (by omega)) (hq9.gt (by omega) 0 _ (by decide) rfl) kk) ?_
      refine r_go (fun kk => e_ic (nI 2) dX0_beginWait_35 (by decide) kk) ?_
      refine r_go (fun kk => e_iv (w := 2) rfl kk) ?_
      refine r_b2 (fun ka kb => e_icmp_ne 49 dX0_beginWait_36 (by decide) ka kb) (fun q3 => ?_) (fun q3 => ?_)
      · skip
        refine r_go (fun kk => e_aload_n 0 dX0_beginWait_49 rfl kk) ?_
        refine r_go (fun kk => e_getP (some (Y.1 8)) dX0_beginWait_50 fl_X0_40 rfl (hq9.T 0 (by decide)) (hq9.1.2.2.1.2.2.2.2.2.2.1) kk) ?_
        refine r_go (fun kk => e_ic (nI 3) dX0_beginWait_53 (by decide) kk) ?_
        refine r_go (fun kk => e_dup2 dX0_beginWait_54 rfl rfl kk) ?_
        refine r_go (fun kk => e_ialdN ((bd (ks kf t 6 a) 4) (220 + 3)) dX0_beginWait_55 (hq9.T 8 (by decide)) (by rw [hq9.1.2.1.2.2.2.2.2]; exact (by omega)) (by rw [hq9.1.2.1.2.2.2.2.2]; decide) (hq9.2.1.2.1.2.2.1 3 (by omega)) kk) ?_
        refine r_go (fun kk => e_ic (nI 1) dX0_beginWait_56 (by decide) kk) ?_
        refine r_go (fun kk => e_iadd dX0_beginWait_57 kk) ?_
        refine r_go (fun kk => e_iastN _ dX0_beginWait_58 (hq9.T 8 (by decide)) (by rw [hq9.1.2.1.2.2.2.2.2]; exact (by omega)) (by rw [hq9.1.2.1.2.2.2.2.2]; decide) rfl kk) ?_
        refine r_gen (fun mm => KQ Z mm Y ρ (bd (bd (ks kf t 6 a) 4) 3) vf n) (hq9.ra hρ (by omega)) (fun m10 hq10 => ?_)
        rw [kg_ne _ _ _ _ _ _ (by decide) (by decide) (by decide)] at q1
        rw [kg_ne _ _ _ _ _ _ (by decide) (by decide) (by decide)] at q2
        rw [kg_bd _ _ _ _ (by decide), kg_ne _ _ _ _ _ _ (by decide) (by decide) (by decide)] at q3
        exact r_ret ⟨rfl, by unfold bwK; (try dsimp only); rw [if_pos (Or.inr q2), if_neg q3]; exact hq10⟩ (e_retV dX0_beginWait_59 rfl rfl)
      · skip
        refine r_go (fun kk => e_aload_n 0 dX0_beginWait_39 rfl kk) ?_
        refine r_go (fun kk => e_getP (some (Y.1 8)) dX0_beginWait_40 fl_X0_40 rfl (hq9.T 0 (by decide)) (hq9.1.2.2.1.2.2.2.2.2.2.1) kk) ?_
        refine r_go (fun kk => e_ic (nI 5) dX0_beginWait_43 (by decide) kk) ?_
        refine r_go (fun kk => e_dup2 dX0_beginWait_44 rfl rfl kk) ?_
        refine r_go (fun kk => e_ialdN ((bd (ks kf t 6 a) 4) (220 + 5)) dX0_beginWait_45 (hq9.T 8 (by decide)) (by rw [hq9.1.2.1.2.2.2.2.2]; exact (by omega)) (by rw [hq9.1.2.1.2.2.2.2.2]; decide) (hq9.2.1.2.1.2.2.1 5 (by omega)) kk) ?_
        refine r_go (fun kk => e_ic (nI 1) dX0_beginWait_46 (by decide) kk) ?_
        refine r_go (fun kk => e_iadd dX0_beginWait_47 kk) ?_
        refine r_go (fun kk => e_iastN _ dX0_beginWait_48 (hq9.T 8 (by decide)) (by rw [hq9.1.2.1.2.2.2.2.2]; exact (by omega)) (by rw [hq9.1.2.1.2.2.2.2.2]; decide) rfl kk) ?_
        refine r_gen (fun mm => KQ Z mm Y ρ (bd (bd (ks kf t 6 a) 4) 5) vf n) (hq9.ra hρ (by omega)) (fun m11 hq11 => ?_)
        refine r_go (fun kk => e_aload_n 0 dX0_beginWait_49 rfl kk) ?_
        refine r_go (fun kk => e_getP (some (Y.1 8)) dX0_beginWait_50 fl_X0_40 rfl (hq11.T 0 (by decide)) (hq11.1.2.2.1.2.2.2.2.2.2.1) kk) ?_
        refine r_go (fun kk => e_ic (nI 3) dX0_beginWait_53 (by decide) kk) ?_
        refine r_go (fun kk => e_dup2 dX0_beginWait_54 rfl rfl kk) ?_
        refine r_go (fun kk => e_ialdN ((bd (bd (ks kf t 6 a) 4) 5) (220 + 3)) dX0_beginWait_55 (hq11.T 8 (by decide)) (by rw [hq11.1.2.1.2.2.2.2.2]; exact (by omega)) (by rw [hq11.1.2.1.2.2.2.2.2]; decide) (hq11.2.1.2.1.2.2.1 3 (by omega)) kk) ?_
        refine r_go (fun kk => e_ic (nI 1) dX0_beginWait_56 (by decide) kk) ?_
        refine r_go (fun kk => e_iadd dX0_beginWait_57 kk) ?_
        refine r_go (fun kk => e_iastN _ dX0_beginWait_58 (hq11.T 8 (by decide)) (by rw [hq11.1.2.1.2.2.2.2.2]; exact (by omega)) (by rw [hq11.1.2.1.2.2.2.2.2]; decide) rfl kk) ?_
        refine r_gen (fun mm => KQ Z mm Y ρ (bd (bd (bd (ks kf t 6 a) 4) 5) 3) vf n) (hq11.ra hρ (by omega)) (fun m12 hq12 => ?_)
        rw [kg_ne _ _ _ _ _ _ (by decide) (by decide) (by decide)] at q1
        rw [kg_ne _ _ _ _ _ _ (by decide) (by decide) (by decide)] at q2
        rw [kg_bd _ _ _ _ (by decide), kg_ne _ _ _ _ _ _ (by decide) (by decide) (by decide)] at q3
        exact r_ret ⟨rfl, by unfold bwK; (try dsimp only); rw [if_pos (Or.inr q2), if_pos q3]; exact hq12⟩ (e_retV dX0_beginWait_59 rfl rfl)

end Class7
