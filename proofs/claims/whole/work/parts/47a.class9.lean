/-! the class: paying, reading a byte, who blocks whom, standings -/
theorem py_bd (kf : KF) (t : Nat) : pyK (bd kf 0) t = payK kf t := by
  unfold pyK payK
  rw [kg_bd _ _ _ _ (by decide), kg_bd _ _ _ _ (by decide), bd_ks _ _ _ _ _ (by decide)]
theorem pv_bd0 (kf : KF) (vf : VF) (t b : Nat) (hb : b < 12) : payV (bd kf b) vf t = payV kf vf t := by
  unfold payV
  rw [kg_bd _ _ _ _ (by omega), kg_bd _ _ _ _ (by omega)]
def py67 (K : KF) (V : VF) (t : Nat) : KF × VF := if kg K t 0 = 4 then (payK (payK (bd K 2) t) t, payV (payK (bd K 2) t) (payV (bd K 2) V t) t) else (payK K t, payV K V t)
def py49 (K : KF) (V : VF) (t : Nat) : KF × VF := py67 (if kg K t 0 = 2 then bd K 1 else K) V t
theorem py_eq (K : KF) (V : VF) (t : Nat) (q : Int32) (hq : kg K t 0 = q) : (let k3 := if q = 2 then bd K 1 else K; let k4 := if q = 4 then bd k3 2 else k3; let k5 := payK k4 t; let v5 := payV k4 V t; if q = 4 then (payK k5 t, payV k5 v5 t) else (k5, v5)) = py49 K V t := by
  subst hq
  unfold py49 py67
  have e : kg (if kg K t 0 = 2 then bd K 1 else K) t 0 = kg K t 0 := by
    split
    · exact kg_bd _ _ _ _ (by decide)
    · rfl
  rw [e]
  try dsimp only
  by_cases h : kg K t 0 = 4
  · rw [if_pos h, if_pos h, if_pos h]
  · rw [if_neg h, if_neg h, if_neg h]
theorem pays_A {kf : KF} {vf : VF} {t : Nat} (h1 : isDue kf t = true) (h2 : 0 < kg kf t 13) (h3 : kg kf t 0 = 1) : paysF kf vf t = (ks (bd kf 7) t 13 (kg (bd kf 7) t 13 - nI 1), vf) := by
  unfold paysF
  rw [h1]
  try dsimp only
  rw [if_pos rfl, kg_bd _ _ _ _ (by decide), decide_eq_true h2]
  rw [if_pos ⟨rfl, h3⟩, if_pos (show (true && true) = true from rfl)]
theorem pays_B {kf : KF} {vf : VF} {t : Nat} (h1 : isDue kf t = true) (h2 : 0 < kg kf t 13) (h3 : ¬ kg kf t 0 = 1) : paysF kf vf t = py49 (ks (bd kf 7) t 13 (kg (bd kf 7) t 13 - nI 1)) vf t := by
  rw [← py_eq _ _ _ (kg kf t 0) (by rw [kg_ne _ _ _ _ _ _ (by decide) (by decide) (by decide), kg_bd _ _ _ _ (by decide)])]
  unfold paysF
  rw [h1]
  try dsimp only
  rw [if_pos rfl, kg_bd _ _ _ _ (by decide), decide_eq_true h2]
  rw [if_neg (fun z => h3 z.2), if_pos (show (true && true) = true from rfl)]
theorem pays_C {kf : KF} {vf : VF} {t : Nat} (h2 : ¬ 0 < kg kf t 13) : paysF kf vf t = py49 (bd kf (if isDue kf t then 7 else 6)) vf t := by
  rw [← py_eq _ _ _ (kg kf t 0) (by rw [kg_bd _ _ _ _ (by split <;> decide)])]
  unfold paysF
  try dsimp only
  rw [kg_bd kf (if isDue kf t then 7 else 6) _ _ (by split <;> decide), decide_eq_false h2, Bool.and_false]
  rw [if_neg (fun z => absurd z.1 (by decide)), if_neg (show ¬ false = true by decide)]
section Class9
variable {G : GG} {Z : Mem × YY} {m : Mem} {Y : YY} {ρ n : Nat} {kf : KF} {vf : VF}

set_option maxRecDepth 100000 in
set_option maxHeartbeats 4000000 in
theorem k_pay (hq : KQ Z m Y ρ kf vf n) (hρ : 62000 ≤ ρ) {t : Nat} (ht : t < n) (hs0 : 0 < kg kf t 2) (hd0 : isDue kf t = false → kg kf t 13 = 0) : EvC G 1 uX0_pay [.ref (Y.1 0), .ref (Y.1 (9 + t))] m (fun r mm => r = none ∧ KQ Z mm Y ρ (paysF kf vf t).1 (paysF kf vf t).2 n) := by
  refine EvC.of (by decide +kernel) (Nat.le_of_ble_eq_true rfl) ?_
  have hn2 := hq.n2
  have L99 : ∀ (M : Mem) (K : KF) (V : VF), KQ Z M Y ρ K V n → 0 < kg K t 2 → (payK K t, payV K V t) = paysF kf vf t → EvR G 1 uX0_pay (zz m) (nn m) (fun r mm => r = none ∧ KQ Z mm Y ρ (paysF kf vf t).1 (paysF kf vf t).2 n) 99 [(0, .ref (Y.1 0)), (1, .ref (Y.1 (9 + t)))] [] M := by
    intro M K V hI hs hF
    refine r_go (fun kk => e_aload_n 0 dX0_pay_99 rfl kk) ?_
    refine r_go (fun kk => e_getP (some (Y.1 8)) dX0_pay_100 fl_X0_40 rfl (hI.T 0 (by decide)) (hI.1.2.2.1.2.2.2.2.2.2.1) kk) ?_
    refine r_go (fun kk => e_ic (nI 0) dX0_pay_103 (by decide) kk) ?_
    refine r_go (fun kk => e_dup2 dX0_pay_104 rfl rfl kk) ?_
    refine r_go (fun kk => e_ialdN (K (220 + 0)) dX0_pay_105 (hI.T 8 (by decide)) (by rw [hI.1.2.1.2.2.2.2.2]; exact (by omega)) (by rw [hI.1.2.1.2.2.2.2.2]; decide) (hI.2.1.2.1.2.2.1 0 (by omega)) kk) ?_
    refine r_go (fun kk => e_ic (nI 1) dX0_pay_106 (by decide) kk) ?_
    refine r_go (fun kk => e_iadd dX0_pay_107 kk) ?_
    refine r_go (fun kk => e_iastN _ dX0_pay_108 (hI.T 8 (by decide)) (by rw [hI.1.2.1.2.2.2.2.2]; exact (by omega)) (by rw [hI.1.2.1.2.2.2.2.2]; decide) rfl kk) ?_
    refine r_gen (fun mm => KQ Z mm Y ρ (bd K 0) V n) (hI.ra hρ (by omega)) (fun m1 hz1 => ?_)
    refine r_go (fun kk => e_aload_n 1 dX0_pay_109 rfl kk) ?_
    obtain ⟨_, m2, ⟨rfl, hz2⟩, E2x110⟩ := k_payOnce (G := G) hz1 hρ ht (by rw [kg_bd _ _ _ _ (by decide)]; exact hs)
    refine r_go (fun kk => e_callV (ci := 4) (st := []) (st1 := []) (As := []) (E2x110) dX0_pay_110 (by decide) cm_X4_payOnce lk_X0_207 im_X4_payOnce rfl sel_X4_payOnce (hz1.Tt (by omega)) rfl rfl (Nat.le_of_ble_eq_true rfl) rfl kk) ?_
    exact r_ret ⟨rfl, by rw [← hF]; rw [py_bd, pv_bd0 _ _ _ _ (by decide)] at hz2; exact hz2⟩ (e_retV dX0_pay_113 rfl rfl)
  have L67 : ∀ (M : Mem) (K : KF) (V : VF), KQ Z M Y ρ K V n → 0 < kg K t 2 → py67 K V t = paysF kf vf t → EvR G 1 uX0_pay (zz m) (nn m) (fun r mm => r = none ∧ KQ Z mm Y ρ (paysF kf vf t).1 (paysF kf vf t).2 n) 67 [(0, .ref (Y.1 0)), (1, .ref (Y.1 (9 + t)))] [] M := by
    intro M K V hI hs hF
    refine r_go (fun kk => e_aload_n 1 dX0_pay_67 rfl kk) ?_
    refine r_go (fun kk => e_getIv (kg K t 0) dX0_pay_68 fl_X0_204 rfl (hI.Tt (by omega)) (hI.gt (by omega) 0 _ (by decide) rfl) kk) ?_
    refine r_go (fun kk => e_ic (nI 4) dX0_pay_71 (by decide) kk) ?_
    refine r_go (fun kk => e_iv (w := 4) rfl kk) ?_
    refine r_b2 (fun ka kb => e_icmp_ne 99 dX0_pay_72 (by decide) ka kb) (fun q4 => ?_) (fun q4 => ?_)
    · skip
      exact L99 M K V hI hs (by rw [← hF, py67, if_neg q4])
    · skip
      refine r_go (fun kk => e_aload_n 0 dX0_pay_75 rfl kk) ?_
      refine r_go (fun kk => e_getP (some (Y.1 8)) dX0_pay_76 fl_X0_40 rfl (hI.T 0 (by decide)) (hI.1.2.2.1.2.2.2.2.2.2.1) kk) ?_
      refine r_go (fun kk => e_ic (nI 2) dX0_pay_79 (by decide) kk) ?_
      refine r_go (fun kk => e_dup2 dX0_pay_80 rfl rfl kk) ?_
      refine r_go (fun kk => e_ialdN (K (220 + 2)) dX0_pay_81 (hI.T 8 (by decide)) (by rw [hI.1.2.1.2.2.2.2.2]; exact (by omega)) (by rw [hI.1.2.1.2.2.2.2.2]; decide) (hI.2.1.2.1.2.2.1 2 (by omega)) kk) ?_
      refine r_go (fun kk => e_ic (nI 1) dX0_pay_82 (by decide) kk) ?_
      refine r_go (fun kk => e_iadd dX0_pay_83 kk) ?_
      refine r_go (fun kk => e_iastN _ dX0_pay_84 (hI.T 8 (by decide)) (by rw [hI.1.2.1.2.2.2.2.2]; exact (by omega)) (by rw [hI.1.2.1.2.2.2.2.2]; decide) rfl kk) ?_
      refine r_gen (fun mm => KQ Z mm Y ρ (bd K 2) V n) (hI.ra hρ (by omega)) (fun m1 hz1 => ?_)
      refine r_go (fun kk => e_aload_n 0 dX0_pay_85 rfl kk) ?_
      refine r_go (fun kk => e_getP (some (Y.1 8)) dX0_pay_86 fl_X0_40 rfl (hz1.T 0 (by decide)) (hz1.1.2.2.1.2.2.2.2.2.2.1) kk) ?_
      refine r_go (fun kk => e_ic (nI 0) dX0_pay_89 (by decide) kk) ?_
      refine r_go (fun kk => e_dup2 dX0_pay_90 rfl rfl kk) ?_
      refine r_go (fun kk => e_ialdN ((bd K 2) (220 + 0)) dX0_pay_91 (hz1.T 8 (by decide)) (by rw [hz1.1.2.1.2.2.2.2.2]; exact (by omega)) (by rw [hz1.1.2.1.2.2.2.2.2]; decide) (hz1.2.1.2.1.2.2.1 0 (by omega)) kk) ?_
      refine r_go (fun kk => e_ic (nI 1) dX0_pay_92 (by decide) kk) ?_
      refine r_go (fun kk => e_iadd dX0_pay_93 kk) ?_
      refine r_go (fun kk => e_iastN _ dX0_pay_94 (hz1.T 8 (by decide)) (by rw [hz1.1.2.1.2.2.2.2.2]; exact (by omega)) (by rw [hz1.1.2.1.2.2.2.2.2]; decide) rfl kk) ?_
      refine r_gen (fun mm => KQ Z mm Y ρ (bd (bd K 2) 0) V n) (hz1.ra hρ (by omega)) (fun m2 hz2 => ?_)
      refine r_go (fun kk => e_aload_n 1 dX0_pay_95 rfl kk) ?_
      obtain ⟨_, m3, ⟨rfl, hz3⟩, E3x96⟩ := k_payOnce (G := G) hz2 hρ ht (by rw [kg_bd _ _ _ _ (by decide), kg_bd _ _ _ _ (by decide)]; exact hs)
      refine r_go (fun kk => e_callV (ci := 4) (st := []) (st1 := []) (As := []) (E3x96) dX0_pay_96 (by decide) cm_X4_payOnce lk_X0_207 im_X4_payOnce rfl sel_X4_payOnce (hz2.Tt (by omega)) rfl rfl (Nat.le_of_ble_eq_true rfl) rfl kk) ?_
      rw [py_bd, pv_bd0 _ _ _ _ (by decide)] at hz3
      exact L99 _ _ _ hz3 (by rw [kg_payK _ _ _ _ (by decide) (by decide), kg_bd _ _ _ _ (by decide)]; exact hs) (by rw [← hF, py67, if_pos q4])
  have L49 : ∀ (M : Mem) (K : KF) (V : VF), KQ Z M Y ρ K V n → 0 < kg K t 2 → py49 K V t = paysF kf vf t → EvR G 1 uX0_pay (zz m) (nn m) (fun r mm => r = none ∧ KQ Z mm Y ρ (paysF kf vf t).1 (paysF kf vf t).2 n) 49 [(0, .ref (Y.1 0)), (1, .ref (Y.1 (9 + t)))] [] M := by
    intro M K V hI hs hF
    refine r_go (fun kk => e_aload_n 1 dX0_pay_49 rfl kk) ?_
    refine r_go (fun kk => e_getIv (kg K t 0) dX0_pay_50 fl_X0_204 rfl (hI.Tt (by omega)) (hI.gt (by omega) 0 _ (by decide) rfl) kk) ?_
    refine r_go (fun kk => e_ic (nI 2) dX0_pay_53 (by decide) kk) ?_
    refine r_go (fun kk => e_iv (w := 2) rfl kk) ?_
    refine r_b2 (fun ka kb => e_icmp_ne 67 dX0_pay_54 (by decide) ka kb) (fun q2 => ?_) (fun q2 => ?_)
    · skip
      exact L67 M K V hI hs (by rw [← hF, py49, if_neg q2])
    · skip
      refine r_go (fun kk => e_aload_n 0 dX0_pay_57 rfl kk) ?_
      refine r_go (fun kk => e_getP (some (Y.1 8)) dX0_pay_58 fl_X0_40 rfl (hI.T 0 (by decide)) (hI.1.2.2.1.2.2.2.2.2.2.1) kk) ?_
      refine r_go (fun kk => e_ic (nI 1) dX0_pay_61 (by decide) kk) ?_
      refine r_go (fun kk => e_dup2 dX0_pay_62 rfl rfl kk) ?_
      refine r_go (fun kk => e_ialdN (K (220 + 1)) dX0_pay_63 (hI.T 8 (by decide)) (by rw [hI.1.2.1.2.2.2.2.2]; exact (by omega)) (by rw [hI.1.2.1.2.2.2.2.2]; decide) (hI.2.1.2.1.2.2.1 1 (by omega)) kk) ?_
      refine r_go (fun kk => e_ic (nI 1) dX0_pay_64 (by decide) kk) ?_
      refine r_go (fun kk => e_iadd dX0_pay_65 kk) ?_
      refine r_go (fun kk => e_iastN _ dX0_pay_66 (hI.T 8 (by decide)) (by rw [hI.1.2.1.2.2.2.2.2]; exact (by omega)) (by rw [hI.1.2.1.2.2.2.2.2]; decide) rfl kk) ?_
      refine r_gen (fun mm => KQ Z mm Y ρ (bd K 1) V n) (hI.ra hρ (by omega)) (fun m1 hz1 => ?_)
      exact L67 _ _ _ hz1 (by rw [kg_bd _ _ _ _ (by decide)]; exact hs) (by rw [← hF, py49, if_pos q2])
  refine r_go (fun kk => e_lvs (lv' := [(0, .ref (Y.1 0)), (1, .ref (Y.1 (9 + t)))]) rfl kk) ?_
  refine r_go (fun kk => e_aload_n 0 dX0_pay_0 rfl kk) ?_
  refine r_go (fun kk => e_getP (some (Y.1 8)) dX0_pay_1 fl_X0_40 rfl (hq.T 0 (by decide)) (hq.1.2.2.1.2.2.2.2.2.2.1) kk) ?_
  refine r_go (fun kk => e_aload_n 1 dX0_pay_4 rfl kk) ?_
  refine r_go (fun kk => e_callV (ci := 4) (st := [.ref (Y.1 8)]) (st1 := [.int (bI (isDue kf t)), .ref (Y.1 8)]) (As := []) (k_hasDeadline hq ht) dX0_pay_5 (by decide) cm_X4_hasDeadline lk_X0_147 im_X4_hasDeadline rfl sel_X4_hasDeadline (hq.Tt (by omega)) rfl rfl (Nat.le_of_ble_eq_true rfl) rfl kk) ?_
  refine r_bb (fun ka kb => e_if_eqB 16 dX0_pay_8 (by decide) ka kb) (fun b1 => ?_) (fun b1 => ?_)
  · skip
    refine r_go (fun kk => e_bipush (v := nI 6) dX0_pay_16 (by decide) kk) ?_
    refine r_go (fun kk => e_dup2 dX0_pay_18 rfl rfl kk) ?_
    refine r_go (fun kk => e_ialdN (kf (220 + 6)) dX0_pay_19 (hq.T 8 (by decide)) (by rw [hq.1.2.1.2.2.2.2.2]; exact (by omega)) (by rw [hq.1.2.1.2.2.2.2.2]; decide) (hq.2.1.2.1.2.2.1 6 (by omega)) kk) ?_
    refine r_go (fun kk => e_ic (nI 1) dX0_pay_20 (by decide) kk) ?_
    refine r_go (fun kk => e_iadd dX0_pay_21 kk) ?_
    refine r_go (fun kk => e_iastN _ dX0_pay_22 (hq.T 8 (by decide)) (by rw [hq.1.2.1.2.2.2.2.2]; exact (by omega)) (by rw [hq.1.2.1.2.2.2.2.2]; decide) rfl kk) ?_
    refine r_gen (fun mm => KQ Z mm Y ρ (bd kf 6) vf n) (hq.ra hρ (by omega)) (fun m1 hq1 => ?_)
    refine r_go (fun kk => e_aload_n 1 dX0_pay_23 rfl kk) ?_
    refine r_go (fun kk => e_getIv (kg (bd kf 6) t 13) dX0_pay_24 fl_X0_201 rfl (hq1.Tt (by omega)) (hq1.gt (by omega) 13 _ (by decide) rfl) kk) ?_
    refine r_b1 (fun ka kb => e_if_le 49 dX0_pay_27 (by decide) ka kb) (fun q1 => ?_) (fun q1 => ?_)
    · skip
      have q1' := Int32.not_lt.mpr q1
      exact L49 _ _ _ hq1 (by rw [kg_bd _ _ _ _ (by decide)]; exact hs0) (by rw [pays_C (by rw [kg_bd _ _ _ _ (by decide)] at q1; exact Int32.not_lt.mpr q1), b1, if_neg (by decide)])
    · skip
      have q1' := Int32.not_le.mp q1
      exact absurd (hd0 b1) (fun z => by rw [kg_bd _ _ _ _ (by decide), z] at q1; exact q1 (by decide))
  · skip
    refine r_go (fun kk => e_bipush (v := nI 7) dX0_pay_11 (by decide) kk) ?_
    refine r_go (fun kk => e_goto 18 dX0_pay_13 (by decide) kk) ?_
    refine r_go (fun kk => e_dup2 dX0_pay_18 rfl rfl kk) ?_
    refine r_go (fun kk => e_ialdN (kf (220 + 7)) dX0_pay_19 (hq.T 8 (by decide)) (by rw [hq.1.2.1.2.2.2.2.2]; exact (by omega)) (by rw [hq.1.2.1.2.2.2.2.2]; decide) (hq.2.1.2.1.2.2.1 7 (by omega)) kk) ?_
    refine r_go (fun kk => e_ic (nI 1) dX0_pay_20 (by decide) kk) ?_
    refine r_go (fun kk => e_iadd dX0_pay_21 kk) ?_
    refine r_go (fun kk => e_iastN _ dX0_pay_22 (hq.T 8 (by decide)) (by rw [hq.1.2.1.2.2.2.2.2]; exact (by omega)) (by rw [hq.1.2.1.2.2.2.2.2]; decide) rfl kk) ?_
    refine r_gen (fun mm => KQ Z mm Y ρ (bd kf 7) vf n) (hq.ra hρ (by omega)) (fun m2 hq2 => ?_)
    refine r_go (fun kk => e_aload_n 1 dX0_pay_23 rfl kk) ?_
    refine r_go (fun kk => e_getIv (kg (bd kf 7) t 13) dX0_pay_24 fl_X0_201 rfl (hq2.Tt (by omega)) (hq2.gt (by omega) 13 _ (by decide) rfl) kk) ?_
    refine r_b1 (fun ka kb => e_if_le 49 dX0_pay_27 (by decide) ka kb) (fun q1 => ?_) (fun q1 => ?_)
    · skip
      have q1' := Int32.not_lt.mpr q1
      exact L49 _ _ _ hq2 (by rw [kg_bd _ _ _ _ (by decide)]; exact hs0) (by rw [pays_C (by rw [kg_bd _ _ _ _ (by decide)] at q1; exact Int32.not_lt.mpr q1), if_pos (show _ = true from b1)])
    · skip
      have q1' := Int32.not_le.mp q1
      refine r_go (fun kk => e_aload_n 1 dX0_pay_30 rfl kk) ?_
      refine r_go (fun kk => e_dup dX0_pay_31 rfl kk) ?_
      refine r_go (fun kk => e_getIv (kg (bd kf 7) t 13) dX0_pay_32 fl_X0_201 rfl (hq2.Tt (by omega)) (hq2.gt (by omega) 13 _ (by decide) rfl) kk) ?_
      refine r_go (fun kk => e_ic (nI 1) dX0_pay_35 (by decide) kk) ?_
      refine r_go (fun kk => e_isub dX0_pay_36 kk) ?_
      refine r_go (fun kk => e_putI (ci := 4) (k := 15) dX0_pay_37 fl_X0_201 rfl (fun q h => by cases h; rfl) ⟨rfl, rfl⟩ (hq2.Tt (by omega)) kk) ?_
      refine r_gen (fun mm => KQ Z mm Y ρ (ks (bd kf 7) t 13 ((kg (bd kf 7) t 13) - (nI 1))) vf n) (hq2.t hρ (by omega) (by decide) rfl) (fun m3 hq3 => ?_)
      refine r_go (fun kk => e_aload_n 1 dX0_pay_40 rfl kk) ?_
      refine r_go (fun kk => e_getIv (kg (ks (bd kf 7) t 13 ((kg (bd kf 7) t 13) - (nI 1))) t 0) dX0_pay_41 fl_X0_204 rfl (hq3.Tt (by omega)) (hq3.gt (by omega) 0 _ (by decide) rfl) kk) ?_
      refine r_go (fun kk => e_ic (nI 1) dX0_pay_44 (by decide) kk) ?_
      refine r_go (fun kk => e_iv (w := 1) rfl kk) ?_
      refine r_b2 (fun ka kb => e_icmp_ne 49 dX0_pay_45 (by decide) ka kb) (fun q3 => ?_) (fun q3 => ?_)
      · skip
        rw [kg_ne _ _ _ _ _ _ (by decide) (by decide) (by decide), kg_bd _ _ _ _ (by decide)] at q3
        exact L49 _ _ _ hq3 (by rw [kg_ne _ _ _ _ _ _ (by decide) (by decide) (by decide), kg_bd _ _ _ _ (by decide)]; exact hs0) (pays_B b1 (by rw [kg_bd _ _ _ _ (by decide)] at q1; exact Int32.not_le.mp q1) q3).symm
      · skip
        rw [kg_ne _ _ _ _ _ _ (by decide) (by decide) (by decide), kg_bd _ _ _ _ (by decide)] at q3
        exact r_ret ⟨rfl, by rw [pays_A b1 (by rw [kg_bd _ _ _ _ (by decide)] at q1; exact Int32.not_le.mp q1) q3]; exact hq3⟩ (e_retV dX0_pay_48 rfl rfl)

def rdF (kf : KF) (p a : Nat) : Int32 := if kf (340 + p) < 0 then nI 1 else if a < plen kf p then (if inI (kf (30000 + 1000 * p + a)) (nI 0) (nI 12) then (if kf (30000 + 1000 * p + a) = 0 then nI 0 else if a + 1 < plen kf p then -1 else nI 2) else nI 10) else nI 2

set_option maxRecDepth 100000 in
set_option maxHeartbeats 4000000 in
theorem k_readable (hq : KQ Z m Y ρ kf vf n) {p a : Nat} (hp : p < 32) (hL : LN kf) (ha : a ≤ 1001) : Ev G 1 uX0_readable [.ref (Y.1 0), .ref (Y.1 (209 + p)), .int (nI a)] m (some (.int (rdF kf p a))) m := by
  refine Ev.of (by decide +kernel) (Nat.le_of_ble_eq_true rfl) ?_
  have hn2 := hq.n2
  refine e_lvs (lv' := [(0, .ref (Y.1 0)), (1, .ref (Y.1 (209 + p))), (2, .int (nI a))]) rfl ?_
  refine e_aload_n 1 dX0_readable_0 rfl ?_
  refine e_ifnull dX0_readable_1 ?_
  refine e_aload_n 1 dX0_readable_4 rfl ?_
  refine e_getIv (kf (340 + p)) dX0_readable_5 fl_X0_69 rfl (hq.Tp (by omega)) (hq.2.1.2.2.1 p (by omega)).1 ?_
  refine e_if_ge 13 dX0_readable_8 (by decide) (fun q1 => ?_) (fun q1 => ?_)
  · skip
    have q1' := Int32.not_lt.mpr q1
    have hl := ln_of hL hp (Int32.not_lt.mpr q1)
    have hl2 := plen_le hL hp
    refine e_iload_n 2 dX0_readable_13 rfl ?_
    refine e_aload_n 1 dX0_readable_14 rfl ?_
    refine e_getIv (kf (340 + p)) dX0_readable_15 fl_X0_69 rfl (hq.Tp (by omega)) (hq.2.1.2.2.1 p (by omega)).1 (e_iv (w := nI (plen kf p)) (hl) ?_)
    refine e_icmp_ltN 23 dX0_readable_18 (by decide) (by omega) (by omega) (fun q2 => ?_) (fun q2 => ?_)
    · skip
      have q2' := Nat.not_le.mpr q2
      refine e_aload_n 1 dX0_readable_23 rfl ?_
      refine e_iload_n 2 dX0_readable_24 rfl ?_
      refine e_callV (ci := 2) (st := []) (st1 := [.int (kf (30000 + 1000 * p + a))]) (As := [.int (nI a)]) (k_byteAt hq hp hl hl2 (by omega)) dX0_readable_25 (by decide) cm_X2_byteAt lk_X0_233 im_X2_byteAt rfl sel_X2_byteAt (hq.Tp (by omega)) rfl rfl (Nat.le_of_ble_eq_true rfl) rfl ?_
      refine e_istore_n (lv' := [(3, .int (kf (30000 + 1000 * p + a))), (0, .ref (Y.1 0)), (1, .ref (Y.1 (209 + p))), (2, .int (nI a))]) dX0_readable_28 (by decide) rfl ?_
      refine e_iload_n 0 dX0_readable_29 rfl ?_
      refine e_if_lt 39 dX0_readable_30 (by decide) (fun q3 => ?_) (fun q3 => ?_)
      · skip
        have q3' := Int32.not_le.mpr q3
        refine e_bipush (v := nI 10) dX0_readable_39 (by decide) ?_
        exact e_retI dX0_readable_41 rfl rfl (by rw [rdF, if_neg (Int32.not_lt.mpr q1), if_pos (show a < plen kf p by omega), in_lt q3, if_neg (by decide)]) rfl
      · skip
        have q3' := Int32.not_lt.mp q3
        refine e_iload_n 0 dX0_readable_33 rfl ?_
        refine e_bipush (v := nI 12) dX0_readable_34 (by decide) ?_
        refine e_iv (w := 12) rfl ?_
        refine e_icmp_le 42 dX0_readable_36 (by decide) (fun q4 => ?_) (fun q4 => ?_)
        · skip
          have q4' := Int32.not_lt.mpr q4
          refine e_iload_n 0 dX0_readable_42 rfl ?_
          refine e_if_ne 48 dX0_readable_43 (by decide) (fun q5 => ?_) (fun q5 => ?_)
          · skip
            refine e_iload_n 3 dX0_readable_48 rfl ?_
            refine e_ic (nI 1) dX0_readable_49 (by decide) ?_
            refine e_iaddN dX0_readable_50 ?_
            refine e_aload_n 2 dX0_readable_51 rfl ?_
            refine e_getIv (kf (340 + p)) dX0_readable_52 fl_X0_69 rfl (hq.Tp (by omega)) (hq.2.1.2.2.1 p (by omega)).1 (e_iv (w := nI (plen kf p)) (hl) ?_)
            refine e_icmp_geN 62 dX0_readable_55 (by decide) (by omega) (by omega) (fun q6 => ?_) (fun q6 => ?_)
            · skip
              have q6' := Nat.not_lt.mpr q6
              refine e_ic (nI 2) dX0_readable_62 (by decide) ?_
              exact e_retI dX0_readable_63 rfl rfl (by rw [rdF, if_neg (Int32.not_lt.mpr q1), if_pos (show a < plen kf p by omega), if_pos (show inI (kf (30000 + 1000 * p + a)) (nI 0) (nI 12) = true from decide_eq_true ⟨Int32.not_lt.mp q3, q4⟩), if_neg q5, if_neg (by omega)]) rfl
            · skip
              have q6' := Nat.not_le.mpr q6
              refine e_ic ((-1)) dX0_readable_58 (by decide) ?_
              refine e_goto 63 dX0_readable_59 (by decide) ?_
              exact e_retI dX0_readable_63 rfl rfl (by rw [rdF, if_neg (Int32.not_lt.mpr q1), if_pos (show a < plen kf p by omega), if_pos (show inI (kf (30000 + 1000 * p + a)) (nI 0) (nI 12) = true from decide_eq_true ⟨Int32.not_lt.mp q3, q4⟩), if_neg q5, if_pos (by omega)]) rfl
          · skip
            refine e_ic (nI 0) dX0_readable_46 (by decide) ?_
            exact e_retI dX0_readable_47 rfl rfl (by rw [rdF, if_neg (Int32.not_lt.mpr q1), if_pos (show a < plen kf p by omega), if_pos (show inI (kf (30000 + 1000 * p + a)) (nI 0) (nI 12) = true from decide_eq_true ⟨Int32.not_lt.mp q3, q4⟩), if_pos q5]) rfl
        · skip
          have q4' := Int32.not_le.mp q4
          refine e_bipush (v := nI 10) dX0_readable_39 (by decide) ?_
          exact e_retI dX0_readable_41 rfl rfl (by rw [rdF, if_neg (Int32.not_lt.mpr q1), if_pos (show a < plen kf p by omega), show inI (kf (30000 + 1000 * p + a)) (nI 0) (nI 12) = false from decide_eq_false (fun z => q4 z.2), if_neg (by decide)]) rfl
    · skip
      have q2' := Nat.not_lt.mpr q2
      refine e_ic (nI 2) dX0_readable_21 (by decide) ?_
      exact e_retI dX0_readable_22 rfl rfl (by rw [rdF, if_neg (Int32.not_lt.mpr q1), if_neg (by omega)]) rfl
  · skip
    have q1' := Int32.not_le.mp q1
    refine e_ic (nI 1) dX0_readable_11 (by decide) ?_
    exact e_retI dX0_readable_12 rfl rfl (by rw [rdF, if_pos (Int32.not_le.mp q1)]) rfl

set_option maxRecDepth 100000 in
set_option maxHeartbeats 4000000 in
theorem k_blockerOf (hq : KQ Z m Y ρ kf vf n) {t : Nat} (ht : t < n) (hW : WF kf n) {i : Nat} (hi : i < n) (hx : nxt kf t = nI i) : Ev G 0 uX0_blockerOf [.ref (Y.1 0), .ref (Y.1 (9 + t))] m (some (.ref (Y.1 (9 + i)))) m := by
  refine Ev.of (by decide +kernel) (Nat.le_of_ble_eq_true rfl) ?_
  have hn2 := hq.n2
  have h6 : kg kf t 6 = 1 := by
    rcases Decidable.em (kg kf t 6 = 1) with q | q
    · exact q
    · rw [nxt, if_neg q] at hx
      have := nI_pos' (n := i) (by omega)
      rw [← hx] at this
      exact absurd this (by decide)
  obtain ⟨l, hl, e7, -⟩ := hW.2.1 t ht h6
  have e8 : kf (240 + l) = nI i := by
    rw [nxt, if_pos h6, e7, nI_clamp (by omega)] at hx
    exact hx
  refine e_lvs (lv' := [(0, .ref (Y.1 0)), (1, .ref (Y.1 (9 + t)))]) rfl ?_
  refine e_aload_n 1 dX0_blockerOf_0 rfl ?_
  refine e_getIv (kg kf t 6) dX0_blockerOf_1 fl_X0_93 rfl (hq.Tt (by omega)) (hq.gt (by omega) 6 _ (by decide) rfl) ?_
  refine e_ic (nI 1) dX0_blockerOf_4 (by decide) ?_
  refine e_iv (w := 1) rfl ?_
  refine e_icmp_ne 15 dX0_blockerOf_5 (by decide) (fun h => absurd h (not_not_intro h6)) (fun _ => ?_)
  refine e_aload_n 1 dX0_blockerOf_8 rfl ?_
  refine e_getIv (kg kf t 7) dX0_blockerOf_9 fl_X0_115 rfl (hq.Tt (by omega)) (hq.gt (by omega) 7 _ (by decide) rfl) (e_iv (w := nI l) (e7) ?_)
  refine e_goto 16 dX0_blockerOf_12 (by decide) ?_
  refine e_istore_n (lv' := [(2, .int (nI l)), (0, .ref (Y.1 0)), (1, .ref (Y.1 (9 + t)))]) dX0_blockerOf_16 (by decide) rfl ?_
  refine e_iload_n 0 dX0_blockerOf_17 rfl ?_
  refine e_if_lt 36 dX0_blockerOf_18 (by decide) (fun h => absurd h (nI_pos (by omega))) (fun _ => ?_)
  refine e_iload_n 0 dX0_blockerOf_21 rfl ?_
  refine e_bipush (v := nI 100) dX0_blockerOf_22 (by decide) ?_
  refine e_icmp_geN 36 dX0_blockerOf_24 (by decide) (by omega) (by omega) (fun h => absurd h (by omega)) (fun _ => ?_)
  refine e_aload_n 1 dX0_blockerOf_27 rfl ?_
  refine e_getP (some (Y.1 5)) dX0_blockerOf_28 fl_X0_30 rfl (hq.T 0 (by decide)) (hq.1.2.2.1.2.2.2.1) ?_
  refine e_iload_n 0 dX0_blockerOf_31 rfl ?_
  refine e_ialdN (kf (240 + l)) dX0_blockerOf_32 (hq.T 5 (by decide)) (by rw [hq.1.2.1.2.2.1]; exact (by omega)) (by rw [hq.1.2.1.2.2.1]; decide) (hq.2.1.2.1.2.2.2 l (by omega)) (e_iv (w := nI i) (e8) ?_)
  refine e_goto 37 dX0_blockerOf_33 (by decide) ?_
  refine e_istore_n (lv' := [(3, .int (nI i)), (2, .int (nI l)), (0, .ref (Y.1 0)), (1, .ref (Y.1 (9 + t)))]) dX0_blockerOf_37 (by decide) rfl ?_
  refine e_iload_n 0 dX0_blockerOf_38 rfl ?_
  refine e_if_lt 59 dX0_blockerOf_39 (by decide) (fun h => absurd h (nI_pos (by omega))) (fun _ => ?_)
  refine e_iload_n 0 dX0_blockerOf_42 rfl ?_
  refine e_aload_n 2 dX0_blockerOf_43 rfl ?_
  refine e_getIv (nI n) dX0_blockerOf_44 fl_X0_43 rfl (hq.T 0 (by decide)) hq.n7 ?_
  refine e_icmp_geN 59 dX0_blockerOf_47 (by decide) (by omega) (by omega) (fun h => absurd h (by omega)) (fun _ => ?_)
  refine e_aload_n 2 dX0_blockerOf_50 rfl ?_
  refine e_getP (some (Y.1 1)) dX0_blockerOf_51 fl_X0_11 rfl (hq.T 0 (by decide)) (hq.1.2.2.1.1) ?_
  refine e_iload_n 0 dX0_blockerOf_54 rfl ?_
  refine e_aaldN (some (Y.1 (9 + i))) dX0_blockerOf_55 (hq.T 1 (by decide)) (Or.inr rfl) (by rw [hq.1.2.1.1]; exact (by omega)) (by rw [hq.1.2.1.1]; decide) (hq.pt (by omega)) ?_
  refine e_goto 60 dX0_blockerOf_56 (by decide) ?_
  exact e_retA (v := some (Y.1 (9 + i))) dX0_blockerOf_60 rfl (by simp) rfl rfl

set_option maxRecDepth 100000 in
set_option maxHeartbeats 4000000 in
theorem k_blockerOfN (hq : KQ Z m Y ρ kf vf n) {t : Nat} (ht : t < n) (hW : WF kf n) (hx : nxt kf t < 0) : Ev G 0 uX0_blockerOf [.ref (Y.1 0), .ref (Y.1 (9 + t))] m (some .null) m := by
  refine Ev.of (by decide +kernel) (Nat.le_of_ble_eq_true rfl) ?_
  have hn2 := hq.n2
  have h6 : ¬ kg kf t 6 = 1 := fun q => by
    obtain ⟨l, hl, e7, i, hi, e8⟩ := hW.2.1 t ht q
    rw [nxt, if_pos q, e7, nI_clamp (by omega), e8] at hx
    exact absurd hx (nI_pos (by omega))
  refine e_lvs (lv' := [(0, .ref (Y.1 0)), (1, .ref (Y.1 (9 + t)))]) rfl ?_
  refine e_aload_n 1 dX0_blockerOf_0 rfl ?_
  refine e_getIv (kg kf t 6) dX0_blockerOf_1 fl_X0_93 rfl (hq.Tt (by omega)) (hq.gt (by omega) 6 _ (by decide) rfl) ?_
  refine e_ic (nI 1) dX0_blockerOf_4 (by decide) ?_
  refine e_iv (w := 1) rfl ?_
  refine e_icmp_ne 15 dX0_blockerOf_5 (by decide) (fun _ => ?_) (fun h => absurd h (h6))
  refine e_ic ((-1)) dX0_blockerOf_15 (by decide) ?_
  refine e_istore_n (lv' := [(2, .int (-1)), (0, .ref (Y.1 0)), (1, .ref (Y.1 (9 + t)))]) dX0_blockerOf_16 (by decide) rfl ?_
  refine e_iload_n 0 dX0_blockerOf_17 rfl ?_
  refine e_if_lt 36 dX0_blockerOf_18 (by decide) (fun _ => ?_) (fun h => absurd h (by decide))
  refine e_ic ((-1)) dX0_blockerOf_36 (by decide) ?_
  refine e_istore_n (lv' := [(3, .int (-1)), (2, .int (-1)), (0, .ref (Y.1 0)), (1, .ref (Y.1 (9 + t)))]) dX0_blockerOf_37 (by decide) rfl ?_
  refine e_iload_n 0 dX0_blockerOf_38 rfl ?_
  refine e_if_lt 59 dX0_blockerOf_39 (by decide) (fun _ => ?_) (fun h => absurd h (by decide))
  refine e_null dX0_blockerOf_59 ?_
  exact e_retA (v := none) dX0_blockerOf_60 rfl (by simp) rfl rfl

end Class9
