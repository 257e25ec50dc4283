/-! the class: waking, quiet ticks, the foremost -/
theorem sp_wk (k : KF) (i : Nat) (c : Int32) : spK k i (kg k i 10) (kg k i 11) c = ks (ks k i 12 (c + kg k i 10)) i 13 (kg (ks k i 12 (c + kg k i 10)) i 11) := by
  unfold spK
  have e1 : ks k i 10 (kg k i 10) = k := ks_self rfl
  rw [e1]
  have e2 : ks k i 11 (kg k i 11) = k := ks_self rfl
  rw [e2, kg_ne _ _ _ _ _ _ (by decide) (by decide) (by decide)]
section Class15
variable {G : GG} {Z : Mem × YY} {m : Mem} {Y : YY} {ρ n : Nat} {kf : KF} {vf : VF}

set_option maxRecDepth 100000 in
set_option maxHeartbeats 4000000 in
theorem k_wakeAndRefill (hq : KQ Z m Y ρ kf vf n) (hρ : 62000 ≤ ρ) : EvC G 1 uX0_wakeAndRefill [.ref (Y.1 0)] m (fun r mm => r = none ∧ KQ Z mm Y ρ (wkF kf) vf n) := by
  refine EvC.of (by decide +kernel) (Nat.le_of_ble_eq_true rfl) ?_
  have hn2 := hq.n2
  have L : ∀ (k i : Nat) (M : Mem) (K : KF), i + k = n → KQ Z M Y ρ K vf n → K = lp (wkS (kf 0)) i kf → K 0 = kf 0 → EvR G 1 uX0_wakeAndRefill (zz m) (nn m) (fun r mm => r = none ∧ KQ Z mm Y ρ (wkF kf) vf n) 2 [(1, .int (nI i)), (0, .ref (Y.1 0))] [] M := by
    intro k
    induction k with
    | zero =>
      intro i M K hi hI hK hK0
      refine r_go (fun kk => e_iload_n 0 dX0_wakeAndRefill_2 rfl kk) ?_
      refine r_go (fun kk => e_aload_n 1 dX0_wakeAndRefill_3 rfl kk) ?_
      refine r_go (fun kk => e_getIv (nI n) dX0_wakeAndRefill_4 fl_X0_43 rfl (hI.T 0 (by decide)) hI.n7 kk) ?_
      refine r_go (fun kk => e_icmp_geN 99 dX0_wakeAndRefill_7 (by decide) (by omega) (by omega) (fun _ => kk) (fun h => absurd h (by omega))) ?_
      have e2 : lp (wkS (kf 0)) n kf = K := by rw [← show i = n by omega]; exact hK.symm
      exact r_ret ⟨rfl, by rw [wkF, nT_of hq.n1 hn2, e2]; exact hI⟩ (e_retV dX0_wakeAndRefill_99 rfl rfl)
    | succ k ih =>
      intro i M K hi hI hK hK0
      refine r_go (fun kk => e_iload_n 0 dX0_wakeAndRefill_2 rfl kk) ?_
      refine r_go (fun kk => e_aload_n 1 dX0_wakeAndRefill_3 rfl kk) ?_
      refine r_go (fun kk => e_getIv (nI n) dX0_wakeAndRefill_4 fl_X0_43 rfl (hI.T 0 (by decide)) hI.n7 kk) ?_
      refine r_go (fun kk => e_icmp_geN 99 dX0_wakeAndRefill_7 (by decide) (by omega) (by omega) (fun h => absurd h (by omega)) (fun _ => kk)) ?_
      refine r_go (fun kk => e_aload_n 1 dX0_wakeAndRefill_10 rfl kk) ?_
      refine r_go (fun kk => e_getP (some (Y.1 1)) dX0_wakeAndRefill_11 fl_X0_11 rfl (hI.T 0 (by decide)) (hI.1.2.2.1.1) kk) ?_
      refine r_go (fun kk => e_iload_n 0 dX0_wakeAndRefill_14 rfl kk) ?_
      refine r_go (fun kk => e_aaldN (some (Y.1 (9 + i))) dX0_wakeAndRefill_15 (hI.T 1 (by decide)) (Or.inr rfl) (by rw [hI.1.2.1.1]; exact (by omega)) (by rw [hI.1.2.1.1]; decide) (hI.pt (by omega)) kk) ?_
      refine r_go (fun kk => e_astore_n (lv' := [(2, .ref (Y.1 (9 + i))), (1, .int (nI i)), (0, .ref (Y.1 0))]) dX0_wakeAndRefill_16 (by decide) rfl kk) ?_
      refine r_go (fun kk => e_aload_n 0 dX0_wakeAndRefill_17 rfl kk) ?_
      refine r_go (fun kk => e_getIv (kg K i 6) dX0_wakeAndRefill_18 fl_X0_93 rfl (hI.Tt (by omega)) (hI.gt (by omega) 6 _ (by decide) rfl) kk) ?_
      refine r_go (fun kk => e_ic (nI 3) dX0_wakeAndRefill_21 (by decide) kk) ?_
      refine r_go (fun kk => e_iv (w := 3) rfl kk) ?_
      refine r_b2 (fun ka kb => e_icmp_ne 40 dX0_wakeAndRefill_22 (by decide) ka kb) (fun q1 => ?_) (fun q1 => ?_)
      · skip
        refine r_go (fun kk => e_aload_n 0 dX0_wakeAndRefill_40 rfl kk) ?_
        refine r_go (fun kk => e_getIv (kg K i 6) dX0_wakeAndRefill_41 fl_X0_93 rfl (hI.Tt (by omega)) (hI.gt (by omega) 6 _ (by decide) rfl) kk) ?_
        refine r_go (fun kk => e_ic (nI 4) dX0_wakeAndRefill_44 (by decide) kk) ?_
        refine r_go (fun kk => e_iv (w := 4) rfl kk) ?_
        refine r_b1 (fun ka kb => e_icmp_eq 93 dX0_wakeAndRefill_45 (by decide) ka kb) (fun q3 => ?_) (fun q3 => ?_)
        · skip
          refine r_go (fun kk => e_iinc1N (lv' := [(1, .int (nI (i + 1))), (2, .ref (Y.1 (9 + i))), (0, .ref (Y.1 0))]) 1 dX0_wakeAndRefill_93 rfl (by decide) rfl kk) ?_
          refine r_go (fun kk => e_goto 2 dX0_wakeAndRefill_96 (by decide) kk) ?_
          refine r_go (fun kk => e_sub [0, 2] rfl kk) ?_
          exact ih (i + 1) M K (by omega) hI (by show K = wkS (kf 0) i (lp (wkS (kf 0)) i kf); rw [← hK, wkS, if_pos q3]) hK0
        · skip
          refine r_go (fun kk => e_aload_n 0 dX0_wakeAndRefill_48 rfl kk) ?_
          refine r_go (fun kk => e_callV (ci := 4) (st := []) (st1 := [.int (bI (isDue K i))]) (As := []) (k_hasDeadline hI (t := i) (by omega)) dX0_wakeAndRefill_49 (by decide) cm_X4_hasDeadline lk_X0_147 im_X4_hasDeadline rfl sel_X4_hasDeadline (hI.Tt (by omega)) rfl rfl (Nat.le_of_ble_eq_true rfl) rfl kk) ?_
          refine r_bb (fun ka kb => e_if_eqB 93 dX0_wakeAndRefill_52 (by decide) ka kb) (fun q4 => ?_) (fun q4 => ?_)
          · skip
            refine r_go (fun kk => e_iinc1N (lv' := [(1, .int (nI (i + 1))), (2, .ref (Y.1 (9 + i))), (0, .ref (Y.1 0))]) 1 dX0_wakeAndRefill_93 rfl (by decide) rfl kk) ?_
            refine r_go (fun kk => e_goto 2 dX0_wakeAndRefill_96 (by decide) kk) ?_
            have e1 : wk1 (kf 0) i K = K := by unfold wk1; rw [if_neg (fun z => q1 z.1)]
            have e2 : wk2 (kf 0) i K = K := by unfold wk2; rw [if_neg (fun z => by rw [q4] at z; exact absurd z.1 (by decide))]
            refine r_go (fun kk => e_sub [0, 2] rfl kk) ?_
            exact ih (i + 1) M K (by omega) hI (by show _ = wkS (kf 0) i (lp (wkS (kf 0)) i kf); rw [← hK, wkS, if_neg q3, e1, e2]) (by exact hK0)
          · skip
            refine r_go (fun kk => e_aload_n 0 dX0_wakeAndRefill_55 rfl kk) ?_
            refine r_go (fun kk => e_getIv (kg K i 12) dX0_wakeAndRefill_56 fl_X0_150 rfl (hI.Tt (by omega)) (hI.gt (by omega) 12 _ (by decide) rfl) kk) ?_
            refine r_go (fun kk => e_aload_n 2 dX0_wakeAndRefill_59 rfl kk) ?_
            refine r_go (fun kk => e_getIv (K 0) dX0_wakeAndRefill_60 fl_X0_47 rfl (hI.T 0 (by decide)) hI.2.1.1.1 kk) ?_
            refine r_b2 (fun ka kb => e_icmp_ne 93 dX0_wakeAndRefill_63 (by decide) ka kb) (fun q5 => ?_) (fun q5 => ?_)
            · skip
              refine r_go (fun kk => e_iinc1N (lv' := [(1, .int (nI (i + 1))), (2, .ref (Y.1 (9 + i))), (0, .ref (Y.1 0))]) 1 dX0_wakeAndRefill_93 rfl (by decide) rfl kk) ?_
              refine r_go (fun kk => e_goto 2 dX0_wakeAndRefill_96 (by decide) kk) ?_
              have e1 : wk1 (kf 0) i K = K := by unfold wk1; rw [if_neg (fun z => q1 z.1)]
              have e2 : wk2 (kf 0) i K = K := by unfold wk2; rw [if_neg (fun z => q5 (z.2.trans (hK0).symm))]
              refine r_go (fun kk => e_sub [0, 2] rfl kk) ?_
              exact ih (i + 1) M K (by omega) hI (by show _ = wkS (kf 0) i (lp (wkS (kf 0)) i kf); rw [← hK, wkS, if_neg q3, e1, e2]) (by exact hK0)
            · skip
              refine r_go (fun kk => e_aload_n 0 dX0_wakeAndRefill_66 rfl kk) ?_
              refine r_go (fun kk => e_aload_n 0 dX0_wakeAndRefill_67 rfl kk) ?_
              refine r_go (fun kk => e_getIv (kg K i 10) dX0_wakeAndRefill_68 fl_X0_153 rfl (hI.Tt (by omega)) (hI.gt (by omega) 10 _ (by decide) rfl) kk) ?_
              refine r_go (fun kk => e_aload_n 0 dX0_wakeAndRefill_71 rfl kk) ?_
              refine r_go (fun kk => e_getIv (kg K i 11) dX0_wakeAndRefill_72 fl_X0_156 rfl (hI.Tt (by omega)) (hI.gt (by omega) 11 _ (by decide) rfl) kk) ?_
              refine r_go (fun kk => e_aload_n 2 dX0_wakeAndRefill_75 rfl kk) ?_
              refine r_go (fun kk => e_getIv (K 0) dX0_wakeAndRefill_76 fl_X0_47 rfl (hI.T 0 (by decide)) hI.2.1.1.1 kk) ?_
              obtain ⟨_, m1, ⟨rfl, hz1⟩, E1x79⟩ := k_startPeriod (G := G) hI hρ (t := i) (by omega) (kg K i 10) (kg K i 11) (K 0)
              refine r_go (fun kk => e_callV (ci := 4) (st := []) (st1 := []) (As := [.int (kg K i 10), .int (kg K i 11), .int (K 0)]) (E1x79) dX0_wakeAndRefill_79 (by decide) cm_X4_startPeriod lk_X0_104 im_X4_startPeriod rfl sel_X4_startPeriod (hI.Tt (by omega)) rfl rfl (Nat.le_of_ble_eq_true rfl) rfl kk) ?_
              refine r_go (fun kk => e_aload_n 2 dX0_wakeAndRefill_82 rfl kk) ?_
              refine r_go (fun kk => e_getP (some (Y.1 8)) dX0_wakeAndRefill_83 fl_X0_40 rfl (hz1.T 0 (by decide)) (hz1.1.2.2.1.2.2.2.2.2.2.1) kk) ?_
              refine r_go (fun kk => e_bipush (v := nI 9) dX0_wakeAndRefill_86 (by decide) kk) ?_
              refine r_go (fun kk => e_dup2 dX0_wakeAndRefill_88 rfl rfl kk) ?_
              refine r_go (fun kk => e_ialdN ((spK K i (kg K i 10) (kg K i 11) (K 0)) (220 + 9)) dX0_wakeAndRefill_89 (hz1.T 8 (by decide)) (by rw [hz1.1.2.1.2.2.2.2.2]; exact (by omega)) (by rw [hz1.1.2.1.2.2.2.2.2]; decide) (hz1.2.1.2.1.2.2.1 9 (by omega)) kk) ?_
              refine r_go (fun kk => e_ic (nI 1) dX0_wakeAndRefill_90 (by decide) kk) ?_
              refine r_go (fun kk => e_iadd dX0_wakeAndRefill_91 kk) ?_
              refine r_go (fun kk => e_iastN _ dX0_wakeAndRefill_92 (hz1.T 8 (by decide)) (by rw [hz1.1.2.1.2.2.2.2.2]; exact (by omega)) (by rw [hz1.1.2.1.2.2.2.2.2]; decide) rfl kk) ?_
              refine r_gen (fun mm => KQ Z mm Y ρ (bd (spK K i (kg K i 10) (kg K i 11) (K 0)) 9) vf n) (hz1.ra hρ (by omega)) (fun m2 hz2 => ?_)
              refine r_go (fun kk => e_iinc1N (lv' := [(1, .int (nI (i + 1))), (2, .ref (Y.1 (9 + i))), (0, .ref (Y.1 0))]) 1 dX0_wakeAndRefill_93 rfl (by decide) rfl kk) ?_
              refine r_go (fun kk => e_goto 2 dX0_wakeAndRefill_96 (by decide) kk) ?_
              have e1 : wk1 (kf 0) i K = K := by unfold wk1; rw [if_neg (fun z => q1 z.1)]
              have hz0 : K 0 = kf 0 := hK0
              have e2 : wk2 (kf 0) i K = (bd (spK K i (kg K i 10) (kg K i 11) (K 0)) 9) := by unfold wk2; rw [if_pos ⟨q4, q5.trans hz0⟩, hz0, sp_wk]
              refine r_go (fun kk => e_sub [0, 2] rfl kk) ?_
              exact ih (i + 1) m2 (bd (spK K i (kg K i 10) (kg K i 11) (K 0)) 9) (by omega) hz2 (by show _ = wkS (kf 0) i (lp (wkS (kf 0)) i kf); rw [← hK, wkS, if_neg q3, e1, e2]) (by rw [k_bd _ _ _ (by omega), spK, ks_at _ _ _ _ _ (by omega), ks_at _ _ _ _ _ (by omega), ks_at _ _ _ _ _ (by omega), ks_at _ _ _ _ _ (by omega)]; exact hz0)
      · skip
        refine r_go (fun kk => e_aload_n 0 dX0_wakeAndRefill_25 rfl kk) ?_
        refine r_go (fun kk => e_getIv (kg K i 8) dX0_wakeAndRefill_26 fl_X0_138 rfl (hI.Tt (by omega)) (hI.gt (by omega) 8 _ (by decide) rfl) kk) ?_
        refine r_go (fun kk => e_aload_n 2 dX0_wakeAndRefill_29 rfl kk) ?_
        refine r_go (fun kk => e_getIv (K 0) dX0_wakeAndRefill_30 fl_X0_47 rfl (hI.T 0 (by decide)) hI.2.1.1.1 kk) ?_
        refine r_b2 (fun ka kb => e_icmp_ne 40 dX0_wakeAndRefill_33 (by decide) ka kb) (fun q2 => ?_) (fun q2 => ?_)
        · skip
          refine r_go (fun kk => e_aload_n 0 dX0_wakeAndRefill_40 rfl kk) ?_
          refine r_go (fun kk => e_getIv (kg K i 6) dX0_wakeAndRefill_41 fl_X0_93 rfl (hI.Tt (by omega)) (hI.gt (by omega) 6 _ (by decide) rfl) kk) ?_
          refine r_go (fun kk => e_ic (nI 4) dX0_wakeAndRefill_44 (by decide) kk) ?_
          refine r_go (fun kk => e_iv (w := 4) rfl kk) ?_
          refine r_go (fun kk => e_icmp_eq 93 dX0_wakeAndRefill_45 (by decide) (fun h => absurd h (by rw [q1]; decide)) (fun _ => kk)) ?_
          refine r_go (fun kk => e_aload_n 0 dX0_wakeAndRefill_48 rfl kk) ?_
          refine r_go (fun kk => e_callV (ci := 4) (st := []) (st1 := [.int (bI (isDue K i))]) (As := []) (k_hasDeadline hI (t := i) (by omega)) dX0_wakeAndRefill_49 (by decide) cm_X4_hasDeadline lk_X0_147 im_X4_hasDeadline rfl sel_X4_hasDeadline (hI.Tt (by omega)) rfl rfl (Nat.le_of_ble_eq_true rfl) rfl kk) ?_
          refine r_bb (fun ka kb => e_if_eqB 93 dX0_wakeAndRefill_52 (by decide) ka kb) (fun q4 => ?_) (fun q4 => ?_)
          · skip
            refine r_go (fun kk => e_iinc1N (lv' := [(1, .int (nI (i + 1))), (2, .ref (Y.1 (9 + i))), (0, .ref (Y.1 0))]) 1 dX0_wakeAndRefill_93 rfl (by decide) rfl kk) ?_
            refine r_go (fun kk => e_goto 2 dX0_wakeAndRefill_96 (by decide) kk) ?_
            have e1 : wk1 (kf 0) i K = K := by unfold wk1; rw [if_neg (fun z => q2 (z.2.trans hK0.symm))]
            have e2 : wk2 (kf 0) i K = K := by unfold wk2; rw [if_neg (fun z => by rw [q4] at z; exact absurd z.1 (by decide))]
            refine r_go (fun kk => e_sub [0, 2] rfl kk) ?_
            exact ih (i + 1) M K (by omega) hI (by show _ = wkS (kf 0) i (lp (wkS (kf 0)) i kf); rw [← hK, wkS, if_neg (by rw [q1]; decide), e1, e2]) (by exact hK0)
          · skip
            refine r_go (fun kk => e_aload_n 0 dX0_wakeAndRefill_55 rfl kk) ?_
            refine r_go (fun kk => e_getIv (kg K i 12) dX0_wakeAndRefill_56 fl_X0_150 rfl (hI.Tt (by omega)) (hI.gt (by omega) 12 _ (by decide) rfl) kk) ?_
            refine r_go (fun kk => e_aload_n 2 dX0_wakeAndRefill_59 rfl kk) ?_
            refine r_go (fun kk => e_getIv (K 0) dX0_wakeAndRefill_60 fl_X0_47 rfl (hI.T 0 (by decide)) hI.2.1.1.1 kk) ?_
            refine r_b2 (fun ka kb => e_icmp_ne 93 dX0_wakeAndRefill_63 (by decide) ka kb) (fun q5 => ?_) (fun q5 => ?_)
            · skip
              refine r_go (fun kk => e_iinc1N (lv' := [(1, .int (nI (i + 1))), (2, .ref (Y.1 (9 + i))), (0, .ref (Y.1 0))]) 1 dX0_wakeAndRefill_93 rfl (by decide) rfl kk) ?_
              refine r_go (fun kk => e_goto 2 dX0_wakeAndRefill_96 (by decide) kk) ?_
              have e1 : wk1 (kf 0) i K = K := by unfold wk1; rw [if_neg (fun z => q2 (z.2.trans hK0.symm))]
              have e2 : wk2 (kf 0) i K = K := by unfold wk2; rw [if_neg (fun z => q5 (z.2.trans (hK0).symm))]
              refine r_go (fun kk => e_sub [0, 2] rfl kk) ?_
              exact ih (i + 1) M K (by omega) hI (by show _ = wkS (kf 0) i (lp (wkS (kf 0)) i kf); rw [← hK, wkS, if_neg (by rw [q1]; decide), e1, e2]) (by exact hK0)
            · skip
              refine r_go (fun kk => e_aload_n 0 dX0_wakeAndRefill_66 rfl kk) ?_
              refine r_go (fun kk => e_aload_n 0 dX0_wakeAndRefill_67 rfl kk) ?_
              refine r_go (fun kk => e_getIv (kg K i 10) dX0_wakeAndRefill_68 fl_X0_153 rfl (hI.Tt (by omega)) (hI.gt (by omega) 10 _ (by decide) rfl) kk) ?_
              refine r_go (fun kk => e_aload_n 0 dX0_wakeAndRefill_71 rfl kk) ?_
              refine r_go (fun kk => e_getIv (kg K i 11) dX0_wakeAndRefill_72 fl_X0_156 rfl (hI.Tt (by omega)) (hI.gt (by omega) 11 _ (by decide) rfl) kk) ?_
              refine r_go (fun kk => e_aload_n 2 dX0_wakeAndRefill_75 rfl kk) ?_
              refine r_go (fun kk => e_getIv (K 0) dX0_wakeAndRefill_76 fl_X0_47 rfl (hI.T 0 (by decide)) hI.2.1.1.1 kk) ?_
              obtain ⟨_, m3, ⟨rfl, hz3⟩, E3x79⟩ := k_startPeriod (G := G) hI hρ (t := i) (by omega) (kg K i 10) (kg K i 11) (K 0)
              refine r_go (fun kk => e_callV (ci := 4) (st := []) (st1 := []) (As := [.int (kg K i 10), .int (kg K i 11), .int (K 0)]) (E3x79) dX0_wakeAndRefill_79 (by decide) cm_X4_startPeriod lk_X0_104 im_X4_startPeriod rfl sel_X4_startPeriod (hI.Tt (by omega)) rfl rfl (Nat.le_of_ble_eq_true rfl) rfl kk) ?_
              refine r_go (fun kk => e_aload_n 2 dX0_wakeAndRefill_82 rfl kk) ?_
              refine r_go (fun kk => e_getP (some (Y.1 8)) dX0_wakeAndRefill_83 fl_X0_40 rfl (hz3.T 0 (by decide)) (hz3.1.2.2.1.2.2.2.2.2.2.1) kk) ?_
              refine r_go (fun kk => e_bipush (v := nI 9) dX0_wakeAndRefill_86 (by decide) kk) ?_
              refine r_go (fun kk => e_dup2 dX0_wakeAndRefill_88 rfl rfl kk) ?_
              refine r_go (fun kk => e_ialdN ((spK K i (kg K i 10) (kg K i 11) (K 0)) (220 + 9)) dX0_wakeAndRefill_89 (hz3.T 8 (by decide)) (by rw [hz3.1.2.1.2.2.2.2.2]; exact (by omega)) (by rw [hz3.1.2.1.2.2.2.2.2]; decide) (hz3.2.1.2.1.2.2.1 9 (by omega)) kk) ?_
              refine r_go (fun kk => e_ic (nI 1) dX0_wakeAndRefill_90 (by decide) kk) ?_
              refine r_go (fun kk => e_iadd dX0_wakeAndRefill_91 kk) ?_
              refine r_go (fun kk => e_iastN _ dX0_wakeAndRefill_92 (hz3.T 8 (by decide)) (by rw [hz3.1.2.1.2.2.2.2.2]; exact (by omega)) (by rw [hz3.1.2.1.2.2.2.2.2]; decide) rfl kk) ?_
              refine r_gen (fun mm => KQ Z mm Y ρ (bd (spK K i (kg K i 10) (kg K i 11) (K 0)) 9) vf n) (hz3.ra hρ (by omega)) (fun m4 hz4 => ?_)
              refine r_go (fun kk => e_iinc1N (lv' := [(1, .int (nI (i + 1))), (2, .ref (Y.1 (9 + i))), (0, .ref (Y.1 0))]) 1 dX0_wakeAndRefill_93 rfl (by decide) rfl kk) ?_
              refine r_go (fun kk => e_goto 2 dX0_wakeAndRefill_96 (by decide) kk) ?_
              have e1 : wk1 (kf 0) i K = K := by unfold wk1; rw [if_neg (fun z => q2 (z.2.trans hK0.symm))]
              have hz0 : K 0 = kf 0 := hK0
              have e2 : wk2 (kf 0) i K = (bd (spK K i (kg K i 10) (kg K i 11) (K 0)) 9) := by unfold wk2; rw [if_pos ⟨q4, q5.trans hz0⟩, hz0, sp_wk]
              refine r_go (fun kk => e_sub [0, 2] rfl kk) ?_
              exact ih (i + 1) m4 (bd (spK K i (kg K i 10) (kg K i 11) (K 0)) 9) (by omega) hz4 (by show _ = wkS (kf 0) i (lp (wkS (kf 0)) i kf); rw [← hK, wkS, if_neg (by rw [q1]; decide), e1, e2]) (by rw [k_bd _ _ _ (by omega), spK, ks_at _ _ _ _ _ (by omega), ks_at _ _ _ _ _ (by omega), ks_at _ _ _ _ _ (by omega), ks_at _ _ _ _ _ (by omega)]; exact hz0)
        · skip
          refine r_go (fun kk => e_aload_n 0 dX0_wakeAndRefill_36 rfl kk) ?_
          obtain ⟨_, m5, ⟨rfl, hz5⟩, E5x37⟩ := k_wake (G := G) hI hρ (t := i) (by omega)
          refine r_go (fun kk => e_callV (ci := 4) (st := []) (st1 := []) (As := []) (E5x37) dX0_wakeAndRefill_37 (by decide) cm_X4_wake lk_X0_118 im_X4_wake rfl sel_X4_wake (hI.Tt (by omega)) rfl rfl (Nat.le_of_ble_eq_true rfl) rfl kk) ?_
          refine r_go (fun kk => e_aload_n 0 dX0_wakeAndRefill_40 rfl kk) ?_
          refine r_go (fun kk => e_getIv (kg (rdy K i) i 6) dX0_wakeAndRefill_41 fl_X0_93 rfl (hz5.Tt (by omega)) (hz5.gt (by omega) 6 _ (by decide) rfl) kk) ?_
          refine r_go (fun kk => e_ic (nI 4) dX0_wakeAndRefill_44 (by decide) kk) ?_
          refine r_go (fun kk => e_iv (w := 4) rfl kk) ?_
          refine r_go (fun kk => e_icmp_eq 93 dX0_wakeAndRefill_45 (by decide) (fun h => absurd h (by rw [rdy_6]; decide)) (fun _ => kk)) ?_
          refine r_go (fun kk => e_aload_n 0 dX0_wakeAndRefill_48 rfl kk) ?_
          refine r_go (fun kk => e_callV (ci := 4) (st := []) (st1 := [.int (bI (isDue (rdy K i) i))]) (As := []) (k_hasDeadline hz5 (t := i) (by omega)) dX0_wakeAndRefill_49 (by decide) cm_X4_hasDeadline lk_X0_147 im_X4_hasDeadline rfl sel_X4_hasDeadline (hz5.Tt (by omega)) rfl rfl (Nat.le_of_ble_eq_true rfl) rfl kk) ?_
          refine r_bb (fun ka kb => e_if_eqB 93 dX0_wakeAndRefill_52 (by decide) ka kb) (fun q4 => ?_) (fun q4 => ?_)
          · skip
            refine r_go (fun kk => e_iinc1N (lv' := [(1, .int (nI (i + 1))), (2, .ref (Y.1 (9 + i))), (0, .ref (Y.1 0))]) 1 dX0_wakeAndRefill_93 rfl (by decide) rfl kk) ?_
            refine r_go (fun kk => e_goto 2 dX0_wakeAndRefill_96 (by decide) kk) ?_
            have e1 : wk1 (kf 0) i K = (rdy K i) := by unfold wk1; rw [if_pos ⟨q1, q2.trans hK0⟩]
            have e2 : wk2 (kf 0) i (rdy K i) = (rdy K i) := by unfold wk2; rw [if_neg (fun z => by rw [q4] at z; exact absurd z.1 (by decide))]
            refine r_go (fun kk => e_sub [0, 2] rfl kk) ?_
            exact ih (i + 1) m5 (rdy K i) (by omega) hz5 (by show _ = wkS (kf 0) i (lp (wkS (kf 0)) i kf); rw [← hK, wkS, if_neg (by rw [q1]; decide), e1, e2]) (by exact show (rdy K i) 0 = kf 0 from (rdy_at _ _ _ (by omega) (by omega) (by omega)).trans hK0)
          · skip
            refine r_go (fun kk => e_aload_n 0 dX0_wakeAndRefill_55 rfl kk) ?_
            refine r_go (fun kk => e_getIv (kg (rdy K i) i 12) dX0_wakeAndRefill_56 fl_X0_150 rfl (hz5.Tt (by omega)) (hz5.gt (by omega) 12 _ (by decide) rfl) kk) ?_
            refine r_go (fun kk => e_aload_n 2 dX0_wakeAndRefill_59 rfl kk) ?_
            refine r_go (fun kk => e_getIv ((rdy K i) 0) dX0_wakeAndRefill_60 fl_X0_47 rfl (hz5.T 0 (by decide)) hz5.2.1.1.1 kk) ?_
            refine r_b2 (fun ka kb => e_icmp_ne 93 dX0_wakeAndRefill_63 (by decide) ka kb) (fun q5 => ?_) (fun q5 => ?_)
            · skip
              refine r_go (fun kk => e_iinc1N (lv' := [(1, .int (nI (i + 1))), (2, .ref (Y.1 (9 + i))), (0, .ref (Y.1 0))]) 1 dX0_wakeAndRefill_93 rfl (by decide) rfl kk) ?_
              refine r_go (fun kk => e_goto 2 dX0_wakeAndRefill_96 (by decide) kk) ?_
              have e1 : wk1 (kf 0) i K = (rdy K i) := by unfold wk1; rw [if_pos ⟨q1, q2.trans hK0⟩]
              have e2 : wk2 (kf 0) i (rdy K i) = (rdy K i) := by unfold wk2; rw [if_neg (fun z => q5 (z.2.trans (show (rdy K i) 0 = kf 0 from (rdy_at _ _ _ (by omega) (by omega) (by omega)).trans hK0).symm))]
              refine r_go (fun kk => e_sub [0, 2] rfl kk) ?_
              exact ih (i + 1) m5 (rdy K i) (by omega) hz5 (by show _ = wkS (kf 0) i (lp (wkS (kf 0)) i kf); rw [← hK, wkS, if_neg (by rw [q1]; decide), e1, e2]) (by exact show (rdy K i) 0 = kf 0 from (rdy_at _ _ _ (by omega) (by omega) (by omega)).trans hK0)
            · skip
              refine r_go (fun kk => e_aload_n 0 dX0_wakeAndRefill_66 rfl kk) ?_
              refine r_go (fun kk => e_aload_n 0 dX0_wakeAndRefill_67 rfl kk) ?_
              refine r_go (fun kk => e_getIv (kg (rdy K i) i 10) dX0_wakeAndRefill_68 fl_X0_153 rfl (hz5.Tt (by omega)) (hz5.gt (by omega) 10 _ (by decide) rfl) kk) ?_
              refine r_go (fun kk => e_aload_n 0 dX0_wakeAndRefill_71 rfl kk) ?_
              refine r_go (fun kk => e_getIv (kg (rdy K i) i 11) dX0_wakeAndRefill_72 fl_X0_156 rfl (hz5.Tt (by omega)) (hz5.gt (by omega) 11 _ (by decide) rfl) kk) ?_
              refine r_go (fun kk => e_aload_n 2 dX0_wakeAndRefill_75 rfl kk) ?_
              refine r_go (fun kk => e_getIv ((rdy K i) 0) dX0_wakeAndRefill_76 fl_X0_47 rfl (hz5.T 0 (by decide)) hz5.2.1.1.1 kk) ?_
              obtain ⟨_, m6, ⟨rfl, hz6⟩, E6x79⟩ := k_startPeriod (G := G) hz5 hρ (t := i) (by omega) (kg (rdy K i) i 10) (kg (rdy K i) i 11) ((rdy K i) 0)
              refine r_go (fun kk => e_callV (ci := 4) (st := []) (st1 := []) (As := [.int (kg (rdy K i) i 10), .int (kg (rdy K i) i 11), .int ((rdy K i) 0)]) (E6x79) dX0_wakeAndRefill_79 (by decide) cm_X4_startPeriod lk_X0_104 im_X4_startPeriod rfl sel_X4_startPeriod (hz5.Tt (by omega)) rfl rfl (Nat.le_of_ble_eq_true rfl) rfl kk) ?_
              refine r_go (fun kk => e_aload_n 2 dX0_wakeAndRefill_82 rfl kk) ?_
              refine r_go (fun kk => e_getP (some (Y.1 8)) dX0_wakeAndRefill_83 fl_X0_40 rfl (hz6.T 0 (by decide)) (hz6.1.2.2.1.2.2.2.2.2.2.1) kk) ?_
              refine r_go (fun kk => e_bipush (v := nI 9) dX0_wakeAndRefill_86 (by decide) kk) ?_
              refine r_go (fun kk => e_dup2 dX0_wakeAndRefill_88 rfl rfl kk) ?_
              refine r_go (fun kk => e_ialdN ((spK (rdy K i) i (kg (rdy K i) i 10) (kg (rdy K i) i 11) ((rdy K i) 0)) (220 + 9)) dX0_wakeAndRefill_89 (hz6.T 8 (by decide)) (by rw [hz6.1.2.1.2.2.2.2.2]; exact (by omega)) (by rw [hz6.1.2.1.2.2.2.2.2]; decide) (hz6.2.1.2.1.2.2.1 9 (by omega)) kk) ?_
              refine r_go (fun kk => e_ic (nI 1) dX0_wakeAndRefill_90 (by decide) kk) ?_
              refine r_go (fun kk => e_iadd dX0_wakeAndRefill_91 kk) ?_
              refine r_go (fun kk => e_iastN _ dX0_wakeAndRefill_92 (hz6.T 8 (by decide)) (by rw [hz6.1.2.1.2.2.2.2.2]; exact (by omega)) (by rw [hz6.1.2.1.2.2.2.2.2]; decide) rfl kk) ?_
              refine r_gen (fun mm => KQ Z mm Y ρ (bd (spK (rdy K i) i (kg (rdy K i) i 10) (kg (rdy K i) i 11) ((rdy K i) 0)) 9) vf n) (hz6.ra hρ (by omega)) (fun m7 hz7 => ?_)
              refine r_go (fun kk => e_iinc1N (lv' := [(1, .int (nI (i + 1))), (2, .ref (Y.1 (9 + i))), (0, .ref (Y.1 0))]) 1 dX0_wakeAndRefill_93 rfl (by decide) rfl kk) ?_
              refine r_go (fun kk => e_goto 2 dX0_wakeAndRefill_96 (by decide) kk) ?_
              have e1 : wk1 (kf 0) i K = (rdy K i) := by unfold wk1; rw [if_pos ⟨q1, q2.trans hK0⟩]
              have hz0 : (rdy K i) 0 = kf 0 := show (rdy K i) 0 = kf 0 from (rdy_at _ _ _ (by omega) (by omega) (by omega)).trans hK0
              have e2 : wk2 (kf 0) i (rdy K i) = (bd (spK (rdy K i) i (kg (rdy K i) i 10) (kg (rdy K i) i 11) ((rdy K i) 0)) 9) := by unfold wk2; rw [if_pos ⟨q4, q5.trans hz0⟩, hz0, sp_wk]
              refine r_go (fun kk => e_sub [0, 2] rfl kk) ?_
              exact ih (i + 1) m7 (bd (spK (rdy K i) i (kg (rdy K i) i 10) (kg (rdy K i) i 11) ((rdy K i) 0)) 9) (by omega) hz7 (by show _ = wkS (kf 0) i (lp (wkS (kf 0)) i kf); rw [← hK, wkS, if_neg (by rw [q1]; decide), e1, e2]) (by rw [k_bd _ _ _ (by omega), spK, ks_at _ _ _ _ _ (by omega), ks_at _ _ _ _ _ (by omega), ks_at _ _ _ _ _ (by omega), ks_at _ _ _ _ _ (by omega)]; exact hz0)
  refine r_go (fun kk => e_lvs (lv' := [(0, .ref (Y.1 0))]) rfl kk) ?_
  refine r_go (fun kk => e_ic (nI 0) dX0_wakeAndRefill_0 (by decide) kk) ?_
  refine r_go (fun kk => e_istore_n (lv' := [(1, .int (nI 0)), (0, .ref (Y.1 0))]) dX0_wakeAndRefill_1 (by decide) rfl kk) ?_
  refine r_go (fun kk => e_sub [0, 1] rfl kk) ?_
  exact L n 0 m kf (by omega) hq rfl rfl

theorem mn_n {a b : Nat} (ha : a < 2 ^ 31) (hb : b < 2 ^ 31) : mnI (nI a) (nI b) = nI (min a b) := by
  unfold mnI
  by_cases h : b < a
  · rw [if_pos (nI_lt h ha), Nat.min_eq_right (by omega)]
  · rw [if_neg (fun q => h ((nI_ltI hb ha).mp q)), Nat.min_eq_left (by omega)]

set_option maxRecDepth 100000 in
set_option maxHeartbeats 4000000 in
theorem k_quietTicks (hq : KQ Z m Y ρ kf vf n) (hW : WF kf n) {z d B : Nat} (hG : WG kf vf z B) (hz : z < 2 ^ 29) (hd : d ≤ 1000) (h0 : kf 0 = nI z) : EvC G 1 uX0_quietTicks [.ref (Y.1 0), .int (nI d)] m (fun r mm => ∃ q, r = some (.int (nI q)) ∧ mm = m ∧ (q = 0 ∨ (q ≤ d ∧ QT kf n (z + q)))) := by
  refine EvC.of (by decide +kernel) (Nat.le_of_ble_eq_true rfl) ?_
  have hn2 := hq.n2
  have L : ∀ (k i x : Nat), i + k = n → z ≤ x → x ≤ z + d → QT kf i x → EvR G 1 uX0_quietTicks (zz m) (nn m) (fun r mm => ∃ q, r = some (.int (nI q)) ∧ mm = m ∧ (q = 0 ∨ (q ≤ d ∧ QT kf n (z + q)))) 9 [(3, .int (nI i)), (2, .int (nI x)), (0, .ref (Y.1 0))] [] m := by
    intro k
    induction k with
    | zero =>
      intro i x hi hx1 hx2 hQ
      refine r_go (fun kk => e_iload_n 0 dX0_quietTicks_9 rfl kk) ?_
      refine r_go (fun kk => e_aload_n 2 dX0_quietTicks_10 rfl kk) ?_
      refine r_go (fun kk => e_getIv (nI n) dX0_quietTicks_11 fl_X0_43 rfl (hq.T 0 (by decide)) hq.n7 kk) ?_
      refine r_go (fun kk => e_icmp_geN 87 dX0_quietTicks_14 (by decide) (by omega) (by omega) (fun _ => kk) (fun h => absurd h (by omega))) ?_
      refine r_go (fun kk => e_iload_n 1 dX0_quietTicks_87 rfl kk) ?_
      refine r_go (fun kk => e_aload_n 2 dX0_quietTicks_88 rfl kk) ?_
      refine r_go (fun kk => e_getIv (kf 0) dX0_quietTicks_89 fl_X0_47 rfl (hq.T 0 (by decide)) hq.2.1.1.1 (e_iv (w := nI z) (h0) kk)) ?_
      refine r_go (fun kk => e_isubN dX0_quietTicks_92 (by omega) kk) ?_
      exact r_ret ⟨x - z, rfl, rfl, Or.inr ⟨by omega, by rw [show z + (x - z) = x by omega, ← show i = n by omega]; exact hQ⟩⟩ (e_retI dX0_quietTicks_93 rfl rfl rfl)
    | succ k ih =>
      intro i x hi hx1 hx2 hQ
      obtain ⟨⟨-, hgA2⟩, -, -, -, ⟨-, e, he, he2, he3⟩, -, -⟩ := hG.at hW (show i < n by omega)
      refine r_go (fun kk => e_iload_n 0 dX0_quietTicks_9 rfl kk) ?_
      refine r_go (fun kk => e_aload_n 2 dX0_quietTicks_10 rfl kk) ?_
      refine r_go (fun kk => e_getIv (nI n) dX0_quietTicks_11 fl_X0_43 rfl (hq.T 0 (by decide)) hq.n7 kk) ?_
      refine r_go (fun kk => e_icmp_geN 87 dX0_quietTicks_14 (by decide) (by omega) (by omega) (fun h => absurd h (by omega)) (fun _ => kk)) ?_
      refine r_go (fun kk => e_aload_n 2 dX0_quietTicks_17 rfl kk) ?_
      refine r_go (fun kk => e_getP (some (Y.1 1)) dX0_quietTicks_18 fl_X0_11 rfl (hq.T 0 (by decide)) (hq.1.2.2.1.1) kk) ?_
      refine r_go (fun kk => e_iload_n 0 dX0_quietTicks_21 rfl kk) ?_
      refine r_go (fun kk => e_aaldN (some (Y.1 (9 + i))) dX0_quietTicks_22 (hq.T 1 (by decide)) (Or.inr rfl) (by rw [hq.1.2.1.1]; exact (by omega)) (by rw [hq.1.2.1.1]; decide) (hq.pt (by omega)) kk) ?_
      refine r_go (fun kk => e_astore (lv' := [(4, .ref (Y.1 (9 + i))), (3, .int (nI i)), (2, .int (nI x)), (0, .ref (Y.1 0))]) dX0_quietTicks_23 (by decide) rfl kk) ?_
      refine r_go (fun kk => e_aload 0 dX0_quietTicks_25 rfl kk) ?_
      refine r_go (fun kk => e_getIv (kg kf i 6) dX0_quietTicks_27 fl_X0_93 rfl (hq.Tt (by omega)) (hq.gt (by omega) 6 _ (by decide) rfl) kk) ?_
      refine r_b2 (fun ka kb => e_if_ne 35 dX0_quietTicks_30 (by decide) ka kb) (fun q1 => ?_) (fun q1 => ?_)
      · skip
        refine r_go (fun kk => e_aload 0 dX0_quietTicks_35 rfl kk) ?_
        refine r_go (fun kk => e_getIv (kg kf i 6) dX0_quietTicks_37 fl_X0_93 rfl (hq.Tt (by omega)) (hq.gt (by omega) 6 _ (by decide) rfl) kk) ?_
        refine r_go (fun kk => e_ic (nI 3) dX0_quietTicks_40 (by decide) kk) ?_
        refine r_go (fun kk => e_iv (w := 3) rfl kk) ?_
        refine r_b2 (fun ka kb => e_icmp_ne 54 dX0_quietTicks_41 (by decide) ka kb) (fun q2 => ?_) (fun q2 => ?_)
        · skip
          refine r_go (fun kk => e_aload 0 dX0_quietTicks_54 rfl kk) ?_
          refine r_go (fun kk => e_getIv (kg kf i 6) dX0_quietTicks_56 fl_X0_93 rfl (hq.Tt (by omega)) (hq.gt (by omega) 6 _ (by decide) rfl) kk) ?_
          refine r_go (fun kk => e_ic (nI 4) dX0_quietTicks_59 (by decide) kk) ?_
          refine r_go (fun kk => e_iv (w := 4) rfl kk) ?_
          refine r_b1 (fun ka kb => e_icmp_eq 81 dX0_quietTicks_60 (by decide) ka kb) (fun q3 => ?_) (fun q3 => ?_)
          · skip
            refine r_go (fun kk => e_iinc1N (lv' := [(3, .int (nI (i + 1))), (4, .ref (Y.1 (9 + i))), (2, .int (nI x)), (0, .ref (Y.1 0))]) 1 dX0_quietTicks_81 rfl (by decide) rfl kk) ?_
            refine r_go (fun kk => e_goto 9 dX0_quietTicks_84 (by decide) kk) ?_
            refine r_go (fun kk => e_sub [0, 2, 3] rfl kk) ?_
            exact ih (i + 1) x (by omega) (by omega) (by omega) (fun t ht => by
              by_cases ye : t = i
              · rw [ye]
                exact ⟨q1, fun y => absurd y q2, fun _ y => absurd q3 y⟩
              · obtain ⟨w1, w2, w3⟩ := hQ t (by omega)
                refine ⟨w1, fun y => ?_, fun y1 y2 => ?_⟩
                · obtain ⟨u', a, b, c⟩ := w2 y
                  exact ⟨u', a, b, by omega⟩
                · obtain ⟨u', a, b, c⟩ := w3 y1 y2
                  exact ⟨u', a, b, by omega⟩)
          · skip
            refine r_go (fun kk => e_aload 0 dX0_quietTicks_63 rfl kk) ?_
            refine r_go (fun kk => e_callV (ci := 4) (st := []) (st1 := [.int (bI (isDue kf i))]) (As := []) (k_hasDeadline hq (t := i) (by omega)) dX0_quietTicks_65 (by decide) cm_X4_hasDeadline lk_X0_147 im_X4_hasDeadline rfl sel_X4_hasDeadline (hq.Tt (by omega)) rfl rfl (Nat.le_of_ble_eq_true rfl) rfl kk) ?_
            refine r_bb (fun ka kb => e_if_eqB 81 dX0_quietTicks_68 (by decide) ka kb) (fun q4 => ?_) (fun q4 => ?_)
            · skip
              refine r_go (fun kk => e_iinc1N (lv' := [(3, .int (nI (i + 1))), (4, .ref (Y.1 (9 + i))), (2, .int (nI x)), (0, .ref (Y.1 0))]) 1 dX0_quietTicks_81 rfl (by decide) rfl kk) ?_
              refine r_go (fun kk => e_goto 9 dX0_quietTicks_84 (by decide) kk) ?_
              refine r_go (fun kk => e_sub [0, 2, 3] rfl kk) ?_
              exact ih (i + 1) x (by omega) (by omega) (by omega) (fun t ht => by
                by_cases ye : t = i
                · rw [ye]
                  exact ⟨q1, fun y => absurd y q2, fun y _ => by rw [q4] at y; exact absurd y (by decide)⟩
                · obtain ⟨w1, w2, w3⟩ := hQ t (by omega)
                  refine ⟨w1, fun y => ?_, fun y1 y2 => ?_⟩
                  · obtain ⟨u', a, b, c⟩ := w2 y
                    exact ⟨u', a, b, by omega⟩
                  · obtain ⟨u', a, b, c⟩ := w3 y1 y2
                    exact ⟨u', a, b, by omega⟩)
            · skip
              refine r_go (fun kk => e_iload_n 2 dX0_quietTicks_71 rfl kk) ?_
              refine r_go (fun kk => e_aload 0 dX0_quietTicks_72 rfl kk) ?_
              refine r_go (fun kk => e_getIv (kg kf i 12) dX0_quietTicks_74 fl_X0_150 rfl (hq.Tt (by omega)) (hq.gt (by omega) 12 _ (by decide) rfl) (e_iv (w := nI e) (he) kk)) ?_
              refine r_go (fun kk => e_jmin dX0_quietTicks_77 lkm_X0_141 (Nat.le_of_ble_eq_true rfl) kk) ?_
              refine r_go (fun kk => e_iv (w := nI (min x e)) (mn_n (by omega) (by omega)) kk) ?_
              refine r_go (fun kk => e_istore_n (lv' := [(2, .int (nI (min x e))), (4, .ref (Y.1 (9 + i))), (3, .int (nI i)), (0, .ref (Y.1 0))]) dX0_quietTicks_80 (by decide) rfl kk) ?_
              refine r_go (fun kk => e_iinc1N (lv' := [(3, .int (nI (i + 1))), (2, .int (nI (min x e))), (4, .ref (Y.1 (9 + i))), (0, .ref (Y.1 0))]) 2 dX0_quietTicks_81 rfl (by decide) rfl kk) ?_
              refine r_go (fun kk => e_goto 9 dX0_quietTicks_84 (by decide) kk) ?_
              have hez := he3 (due_iff.mp q4) q3
              refine r_go (fun kk => e_sub [0, 1, 3] rfl kk) ?_
              exact ih (i + 1) (min x e) (by omega) (by omega) (by omega) (fun t ht => by
                by_cases ye : t = i
                · rw [ye]
                  exact ⟨q1, fun y => absurd y q2, fun _ _ => ⟨e, he, by omega, by omega⟩⟩
                · obtain ⟨w1, w2, w3⟩ := hQ t (by omega)
                  refine ⟨w1, fun y => ?_, fun y1 y2 => ?_⟩
                  · obtain ⟨u', a, b, c⟩ := w2 y
                    exact ⟨u', a, b, by omega⟩
                  · obtain ⟨u', a, b, c⟩ := w3 y1 y2
                    exact ⟨u', a, b, by omega⟩)
        · skip
          obtain ⟨u, hu, hu1, hu2⟩ := hgA2 q2
          refine r_go (fun kk => e_iload_n 2 dX0_quietTicks_44 rfl kk) ?_
          refine r_go (fun kk => e_aload 0 dX0_quietTicks_45 rfl kk) ?_
          refine r_go (fun kk => e_getIv (kg kf i 8) dX0_quietTicks_47 fl_X0_138 rfl (hq.Tt (by omega)) (hq.gt (by omega) 8 _ (by decide) rfl) (e_iv (w := nI u) (hu) kk)) ?_
          refine r_go (fun kk => e_jmin dX0_quietTicks_50 lkm_X0_141 (Nat.le_of_ble_eq_true rfl) kk) ?_
          refine r_go (fun kk => e_iv (w := nI (min x u)) (mn_n (by omega) (by omega)) kk) ?_
          refine r_go (fun kk => e_istore_n (lv' := [(2, .int (nI (min x u))), (4, .ref (Y.1 (9 + i))), (3, .int (nI i)), (0, .ref (Y.1 0))]) dX0_quietTicks_53 (by decide) rfl kk) ?_
          refine r_go (fun kk => e_aload 1 dX0_quietTicks_54 rfl kk) ?_
          refine r_go (fun kk => e_getIv (kg kf i 6) dX0_quietTicks_56 fl_X0_93 rfl (hq.Tt (by omega)) (hq.gt (by omega) 6 _ (by decide) rfl) kk) ?_
          refine r_go (fun kk => e_ic (nI 4) dX0_quietTicks_59 (by decide) kk) ?_
          refine r_go (fun kk => e_iv (w := 4) rfl kk) ?_
          refine r_go (fun kk => e_icmp_eq 81 dX0_quietTicks_60 (by decide) (fun h => absurd h (by rw [q2]; decide)) (fun _ => kk)) ?_
          refine r_go (fun kk => e_aload 1 dX0_quietTicks_63 rfl kk) ?_
          refine r_go (fun kk => e_callV (ci := 4) (st := []) (st1 := [.int (bI (isDue kf i))]) (As := []) (k_hasDeadline hq (t := i) (by omega)) dX0_quietTicks_65 (by decide) cm_X4_hasDeadline lk_X0_147 im_X4_hasDeadline rfl sel_X4_hasDeadline (hq.Tt (by omega)) rfl rfl (Nat.le_of_ble_eq_true rfl) rfl kk) ?_
          refine r_bb (fun ka kb => e_if_eqB 81 dX0_quietTicks_68 (by decide) ka kb) (fun q4 => ?_) (fun q4 => ?_)
          · skip
            refine r_go (fun kk => e_iinc1N (lv' := [(3, .int (nI (i + 1))), (2, .int (nI (min x u))), (4, .ref (Y.1 (9 + i))), (0, .ref (Y.1 0))]) 2 dX0_quietTicks_81 rfl (by decide) rfl kk) ?_
            refine r_go (fun kk => e_goto 9 dX0_quietTicks_84 (by decide) kk) ?_
            refine r_go (fun kk => e_sub [0, 1, 3] rfl kk) ?_
            exact ih (i + 1) (min x u) (by omega) (by omega) (by omega) (fun t ht => by
              by_cases ye : t = i
              · rw [ye]
                exact ⟨q1, fun _ => ⟨u, hu, by omega, by omega⟩, fun y _ => by rw [q4] at y; exact absurd y (by decide)⟩
              · obtain ⟨w1, w2, w3⟩ := hQ t (by omega)
                refine ⟨w1, fun y => ?_, fun y1 y2 => ?_⟩
                · obtain ⟨u', a, b, c⟩ := w2 y
                  exact ⟨u', a, b, by omega⟩
                · obtain ⟨u', a, b, c⟩ := w3 y1 y2
                  exact ⟨u', a, b, by omega⟩)
          · skip
            refine r_go (fun kk => e_iload_n 0 dX0_quietTicks_71 rfl kk) ?_
            refine r_go (fun kk => e_aload 1 dX0_quietTicks_72 rfl kk) ?_
            refine r_go (fun kk => e_getIv (kg kf i 12) dX0_quietTicks_74 fl_X0_150 rfl (hq.Tt (by omega)) (hq.gt (by omega) 12 _ (by decide) rfl) (e_iv (w := nI e) (he) kk)) ?_
            refine r_go (fun kk => e_jmin dX0_quietTicks_77 lkm_X0_141 (Nat.le_of_ble_eq_true rfl) kk) ?_
            refine r_go (fun kk => e_iv (w := nI (min (min x u) e)) (mn_n (by omega) (by omega)) kk) ?_
            refine r_go (fun kk => e_istore_n (lv' := [(2, .int (nI (min (min x u) e))), (4, .ref (Y.1 (9 + i))), (3, .int (nI i)), (0, .ref (Y.1 0))]) dX0_quietTicks_80 (by decide) rfl kk) ?_
            refine r_go (fun kk => e_iinc1N (lv' := [(3, .int (nI (i + 1))), (2, .int (nI (min (min x u) e))), (4, .ref (Y.1 (9 + i))), (0, .ref (Y.1 0))]) 2 dX0_quietTicks_81 rfl (by decide) rfl kk) ?_
            refine r_go (fun kk => e_goto 9 dX0_quietTicks_84 (by decide) kk) ?_
            have hez := he3 (due_iff.mp q4) (by rw [q2]; decide)
            refine r_go (fun kk => e_sub [0, 1, 3] rfl kk) ?_
            exact ih (i + 1) (min (min x u) e) (by omega) (by omega) (by omega) (fun t ht => by
              by_cases ye : t = i
              · rw [ye]
                exact ⟨q1, fun _ => ⟨u, hu, by omega, by omega⟩, fun _ _ => ⟨e, he, by omega, by omega⟩⟩
              · obtain ⟨w1, w2, w3⟩ := hQ t (by omega)
                refine ⟨w1, fun y => ?_, fun y1 y2 => ?_⟩
                · obtain ⟨u', a, b, c⟩ := w2 y
                  exact ⟨u', a, b, by omega⟩
                · obtain ⟨u', a, b, c⟩ := w3 y1 y2
                  exact ⟨u', a, b, by omega⟩)
      · skip
        refine r_go (fun kk => e_ic (nI 0) dX0_quietTicks_33 (by decide) kk) ?_
        exact r_ret ⟨0, rfl, rfl, Or.inl rfl⟩ (e_retI dX0_quietTicks_34 rfl rfl rfl)
  refine r_go (fun kk => e_lvs (lv' := [(0, .ref (Y.1 0)), (1, .int (nI d))]) rfl kk) ?_
  refine r_go (fun kk => e_aload_n 0 dX0_quietTicks_0 rfl kk) ?_
  refine r_go (fun kk => e_getIv (kf 0) dX0_quietTicks_1 fl_X0_47 rfl (hq.T 0 (by decide)) hq.2.1.1.1 (e_iv (w := nI z) (h0) kk)) ?_
  refine r_go (fun kk => e_iload_n 1 dX0_quietTicks_4 rfl kk) ?_
  refine r_go (fun kk => e_iaddN dX0_quietTicks_5 kk) ?_
  refine r_go (fun kk => e_istore_n (lv' := [(2, .int (nI (z + d))), (0, .ref (Y.1 0)), (1, .int (nI d))]) dX0_quietTicks_6 (by decide) rfl kk) ?_
  refine r_go (fun kk => e_ic (nI 0) dX0_quietTicks_7 (by decide) kk) ?_
  refine r_go (fun kk => e_istore_n (lv' := [(3, .int (nI 0)), (2, .int (nI (z + d))), (0, .ref (Y.1 0)), (1, .int (nI d))]) dX0_quietTicks_8 (by decide) rfl kk) ?_
  refine r_go (fun kk => e_sub [0, 1, 2] rfl kk) ?_
  exact L n 0 (z + d) (by omega) (by omega) (by omega) (fun t ht => absurd ht (Nat.not_lt_zero _))

set_option maxRecDepth 100000 in
set_option maxHeartbeats 4000000 in
theorem k_foremostBehind (hq : KQ Z m Y ρ kf vf n) (hW : WF kf n) (hR : RH kf vf n) (hσ : ∀ t, t < n → gL m 98 (Y.1 (9 + t)) = rkA kf vf (stnd kf vf t)) (P : Nat → Bool) (y : Int64) (hP : ∀ u, u < n → (P u = true ↔ kg kf u 6 = 0 ∧ y < rkA kf vf (stnd kf vf u))) : Ev G 0 uX0_foremostBehind [.ref (Y.1 0), .long y] m (match pick kf vf P n with | none => some .null | some b => some (.ref (Y.1 (9 + b)))) m := by
  refine Ev.of (by decide +kernel) (Nat.le_of_ble_eq_true rfl) ?_
  have hn2 := hq.n2
  have ah : ∀ i b, i < n → b < n → (ahead kf vf (stnd kf vf i) (stnd kf vf b) = true ↔ rkA kf vf (stnd kf vf i) < rkA kf vf (stnd kf vf b)) := fun i b hi hb => hR.ah hn2 (stnd_min hW hR hi).1 (stnd_min hW hR hb).1
  have L : ∀ (k i : Nat), i + k = n → (pick kf vf P i = none → EvB G 0 uX0_foremostBehind (zz m) (nn m) (match pick kf vf P n with | none => some .null | some b => some (.ref (Y.1 (9 + b)))) m 5 [(4, .int (nI i)), (3, .null), (0, .ref (Y.1 0)), (1, .long y)] [] m) ∧ (∀ b, pick kf vf P i = some b → EvB G 0 uX0_foremostBehind (zz m) (nn m) (match pick kf vf P n with | none => some .null | some b => some (.ref (Y.1 (9 + b)))) m 5 [(4, .int (nI i)), (3, .ref (Y.1 (9 + b))), (0, .ref (Y.1 0)), (1, .long y)] [] m) := by
    intro k
    induction k with
    | zero =>
      intro i hi
      have hin : i = n := by omega
      subst hin
      refine ⟨fun hp => ?_, fun b hp => ?_⟩
      · skip
        refine e_iload 0 dX0_foremostBehind_5 rfl ?_
        refine e_aload_n 2 dX0_foremostBehind_7 rfl ?_
        refine e_getIv (nI i) dX0_foremostBehind_8 fl_X0_43 rfl (hq.T 0 (by decide)) hq.n7 ?_
        refine e_icmp_geN 67 dX0_foremostBehind_11 (by decide) (by omega) (by omega) (fun _ => ?_) (fun h => absurd h (by omega))
        refine e_aload_nN 1 dX0_foremostBehind_67 rfl ?_
        exact e_retA (v := none) dX0_foremostBehind_68 rfl (by simp) (by rw [hp]; try rfl) rfl
      · skip
        refine e_iload 0 dX0_foremostBehind_5 rfl ?_
        refine e_aload_n 2 dX0_foremostBehind_7 rfl ?_
        refine e_getIv (nI i) dX0_foremostBehind_8 fl_X0_43 rfl (hq.T 0 (by decide)) hq.n7 ?_
        refine e_icmp_geN 67 dX0_foremostBehind_11 (by decide) (by omega) (by omega) (fun _ => ?_) (fun h => absurd h (by omega))
        refine e_aload_n 1 dX0_foremostBehind_67 rfl ?_
        exact e_retA (v := some (Y.1 (9 + b))) dX0_foremostBehind_68 rfl (by simp) (by rw [hp]; try rfl) rfl
    | succ k ih =>
      intro i hi
      refine ⟨fun hp => ?_, fun b hp => ?_⟩
      · skip
        refine e_iload 0 dX0_foremostBehind_5 rfl ?_
        refine e_aload_n 2 dX0_foremostBehind_7 rfl ?_
        refine e_getIv (nI n) dX0_foremostBehind_8 fl_X0_43 rfl (hq.T 0 (by decide)) hq.n7 ?_
        refine e_icmp_geN 67 dX0_foremostBehind_11 (by decide) (by omega) (by omega) (fun h => absurd h (by omega)) (fun _ => ?_)
        refine e_aload_n 2 dX0_foremostBehind_14 rfl ?_
        refine e_getP (some (Y.1 1)) dX0_foremostBehind_15 fl_X0_11 rfl (hq.T 0 (by decide)) (hq.1.2.2.1.1) ?_
        refine e_iload 0 dX0_foremostBehind_18 rfl ?_
        refine e_aaldN (some (Y.1 (9 + i))) dX0_foremostBehind_20 (hq.T 1 (by decide)) (Or.inr rfl) (by rw [hq.1.2.1.1]; exact (by omega)) (by rw [hq.1.2.1.1]; decide) (hq.pt (by omega)) ?_
        refine e_astore (lv' := [(5, .ref (Y.1 (9 + i))), (4, .int (nI i)), (3, .null), (0, .ref (Y.1 0)), (1, .long y)]) dX0_foremostBehind_21 (by decide) rfl ?_
        refine e_aload 0 dX0_foremostBehind_23 rfl ?_
        refine e_getIv (kg kf i 6) dX0_foremostBehind_25 fl_X0_93 rfl (hq.Tt (by omega)) (hq.gt (by omega) 6 _ (by decide) rfl) ?_
        refine e_if_ne 61 dX0_foremostBehind_28 (by decide) (fun q1 => ?_) (fun q1 => ?_)
        · skip
          refine e_iinc1N (lv' := [(4, .int (nI (i + 1))), (5, .ref (Y.1 (9 + i))), (3, .null), (0, .ref (Y.1 0)), (1, .long y)]) 1 dX0_foremostBehind_61 rfl (by decide) rfl ?_
          refine e_goto 5 dX0_foremostBehind_64 (by decide) ?_
          refine e_sub [0, 2, 3, 4] rfl ?_
          exact (ih (i + 1) (by omega)).1 ((pick_s0 (Bool.eq_false_iff.mpr (fun z => q1 ((hP i (by omega)).mp z).1))).trans hp)
        · skip
          refine e_aload 0 dX0_foremostBehind_31 rfl ?_
          refine e_getLv (rkA kf vf (stnd kf vf i)) dX0_foremostBehind_33 fl_X0_168 rfl (hq.Tt (by omega)) (hσ i (by omega)) ?_
          refine e_lload_n 4 dX0_foremostBehind_36 rfl ?_
          refine e_lcmp dX0_foremostBehind_37 ?_
          refine e_lc_le 61 dX0_foremostBehind_38 (by decide) (fun q2 => ?_) (fun q2 => ?_)
          · skip
            have q2' := Int64.not_lt.mpr q2
            refine e_iinc1N (lv' := [(4, .int (nI (i + 1))), (5, .ref (Y.1 (9 + i))), (3, .null), (0, .ref (Y.1 0)), (1, .long y)]) 1 dX0_foremostBehind_61 rfl (by decide) rfl ?_
            refine e_goto 5 dX0_foremostBehind_64 (by decide) ?_
            refine e_sub [0, 2, 3, 4] rfl ?_
            exact (ih (i + 1) (by omega)).1 ((pick_s0 (Bool.eq_false_iff.mpr (fun z => Int64.not_lt.mpr q2 ((hP i (by omega)).mp z).2))).trans hp)
          · skip
            have q2' := Int64.not_le.mp q2
            refine e_aload_nN 2 dX0_foremostBehind_41 rfl ?_
            refine e_ifnullN 58 dX0_foremostBehind_42 (by decide) ?_
            refine e_aload 0 dX0_foremostBehind_58 rfl ?_
            refine e_astore_n (lv' := [(3, .ref (Y.1 (9 + i))), (5, .ref (Y.1 (9 + i))), (4, .int (nI i)), (0, .ref (Y.1 0)), (1, .long y)]) dX0_foremostBehind_60 (by decide) rfl ?_
            refine e_iinc1N (lv' := [(4, .int (nI (i + 1))), (3, .ref (Y.1 (9 + i))), (5, .ref (Y.1 (9 + i))), (0, .ref (Y.1 0)), (1, .long y)]) 2 dX0_foremostBehind_61 rfl (by decide) rfl ?_
            refine e_goto 5 dX0_foremostBehind_64 (by decide) ?_
            refine e_sub [0, 1, 3, 4] rfl ?_
            exact (ih (i + 1) (by omega)).2 i (pick_s1 ((hP i (by omega)).mpr ⟨q1, Int64.not_le.mp q2⟩) hp)
      · have hb : b < n := by
          have := (pick_lt hp).1
          omega
        refine e_iload 0 dX0_foremostBehind_5 rfl ?_
        refine e_aload_n 2 dX0_foremostBehind_7 rfl ?_
        refine e_getIv (nI n) dX0_foremostBehind_8 fl_X0_43 rfl (hq.T 0 (by decide)) hq.n7 ?_
        refine e_icmp_geN 67 dX0_foremostBehind_11 (by decide) (by omega) (by omega) (fun h => absurd h (by omega)) (fun _ => ?_)
        refine e_aload_n 2 dX0_foremostBehind_14 rfl ?_
        refine e_getP (some (Y.1 1)) dX0_foremostBehind_15 fl_X0_11 rfl (hq.T 0 (by decide)) (hq.1.2.2.1.1) ?_
        refine e_iload 0 dX0_foremostBehind_18 rfl ?_
        refine e_aaldN (some (Y.1 (9 + i))) dX0_foremostBehind_20 (hq.T 1 (by decide)) (Or.inr rfl) (by rw [hq.1.2.1.1]; exact (by omega)) (by rw [hq.1.2.1.1]; decide) (hq.pt (by omega)) ?_
        refine e_astore (lv' := [(5, .ref (Y.1 (9 + i))), (4, .int (nI i)), (3, .ref (Y.1 (9 + b))), (0, .ref (Y.1 0)), (1, .long y)]) dX0_foremostBehind_21 (by decide) rfl ?_
        refine e_aload 0 dX0_foremostBehind_23 rfl ?_
        refine e_getIv (kg kf i 6) dX0_foremostBehind_25 fl_X0_93 rfl (hq.Tt (by omega)) (hq.gt (by omega) 6 _ (by decide) rfl) ?_
        refine e_if_ne 61 dX0_foremostBehind_28 (by decide) (fun q1 => ?_) (fun q1 => ?_)
        · skip
          refine e_iinc1N (lv' := [(4, .int (nI (i + 1))), (5, .ref (Y.1 (9 + i))), (3, .ref (Y.1 (9 + b))), (0, .ref (Y.1 0)), (1, .long y)]) 1 dX0_foremostBehind_61 rfl (by decide) rfl ?_
          refine e_goto 5 dX0_foremostBehind_64 (by decide) ?_
          refine e_sub [0, 2, 3, 4] rfl ?_
          exact (ih (i + 1) (by omega)).2 b ((pick_s0 (Bool.eq_false_iff.mpr (fun z => q1 ((hP i (by omega)).mp z).1))).trans hp)
        · skip
          refine e_aload 0 dX0_foremostBehind_31 rfl ?_
          refine e_getLv (rkA kf vf (stnd kf vf i)) dX0_foremostBehind_33 fl_X0_168 rfl (hq.Tt (by omega)) (hσ i (by omega)) ?_
          refine e_lload_n 4 dX0_foremostBehind_36 rfl ?_
          refine e_lcmp dX0_foremostBehind_37 ?_
          refine e_lc_le 61 dX0_foremostBehind_38 (by decide) (fun q2 => ?_) (fun q2 => ?_)
          · skip
            have q2' := Int64.not_lt.mpr q2
            refine e_iinc1N (lv' := [(4, .int (nI (i + 1))), (5, .ref (Y.1 (9 + i))), (3, .ref (Y.1 (9 + b))), (0, .ref (Y.1 0)), (1, .long y)]) 1 dX0_foremostBehind_61 rfl (by decide) rfl ?_
            refine e_goto 5 dX0_foremostBehind_64 (by decide) ?_
            refine e_sub [0, 2, 3, 4] rfl ?_
            exact (ih (i + 1) (by omega)).2 b ((pick_s0 (Bool.eq_false_iff.mpr (fun z => Int64.not_lt.mpr q2 ((hP i (by omega)).mp z).2))).trans hp)
          · skip
            have q2' := Int64.not_le.mp q2
            refine e_aload_n 2 dX0_foremostBehind_41 rfl ?_
            refine e_ifnull dX0_foremostBehind_42 ?_
            refine e_aload 0 dX0_foremostBehind_45 rfl ?_
            refine e_getLv (rkA kf vf (stnd kf vf i)) dX0_foremostBehind_47 fl_X0_168 rfl (hq.Tt (by omega)) (hσ i (by omega)) ?_
            refine e_aload_n 2 dX0_foremostBehind_50 rfl ?_
            refine e_getLv (rkA kf vf (stnd kf vf b)) dX0_foremostBehind_51 fl_X0_168 rfl (hq.Tt (by omega)) (hσ b (by omega)) ?_
            refine e_lcmp dX0_foremostBehind_54 ?_
            refine e_lc_ge 61 dX0_foremostBehind_55 (by decide) (fun q3 => ?_) (fun q3 => ?_)
            · skip
              have q3' := Int64.not_lt.mpr q3
              refine e_iinc1N (lv' := [(4, .int (nI (i + 1))), (5, .ref (Y.1 (9 + i))), (3, .ref (Y.1 (9 + b))), (0, .ref (Y.1 0)), (1, .long y)]) 1 dX0_foremostBehind_61 rfl (by decide) rfl ?_
              refine e_goto 5 dX0_foremostBehind_64 (by decide) ?_
              refine e_sub [0, 2, 3, 4] rfl ?_
              exact (ih (i + 1) (by omega)).2 b (pick_s3 ((hP i (by omega)).mpr ⟨q1, Int64.not_le.mp q2⟩) hp (Bool.eq_false_iff.mpr (fun z => Int64.not_lt.mpr q3 ((ah i b (by omega) hb).mp z))))
            · skip
              have q3' := Int64.not_le.mp q3
              refine e_aload 0 dX0_foremostBehind_58 rfl ?_
              refine e_astore_n (lv' := [(3, .ref (Y.1 (9 + i))), (5, .ref (Y.1 (9 + i))), (4, .int (nI i)), (0, .ref (Y.1 0)), (1, .long y)]) dX0_foremostBehind_60 (by decide) rfl ?_
              refine e_iinc1N (lv' := [(4, .int (nI (i + 1))), (3, .ref (Y.1 (9 + i))), (5, .ref (Y.1 (9 + i))), (0, .ref (Y.1 0)), (1, .long y)]) 2 dX0_foremostBehind_61 rfl (by decide) rfl ?_
              refine e_goto 5 dX0_foremostBehind_64 (by decide) ?_
              refine e_sub [0, 1, 3, 4] rfl ?_
              exact (ih (i + 1) (by omega)).2 i (pick_s2 ((hP i (by omega)).mpr ⟨q1, Int64.not_le.mp q2⟩) hp ((ah i b (by omega) hb).mpr (Int64.not_le.mp q3)))
  refine e_lvs (lv' := [(0, .ref (Y.1 0)), (1, .long y)]) rfl ?_
  refine e_null dX0_foremostBehind_0 ?_
  refine e_astore_nN (lv' := [(3, .null), (0, .ref (Y.1 0)), (1, .long y)]) dX0_foremostBehind_1 (by decide) rfl ?_
  refine e_ic (nI 0) dX0_foremostBehind_2 (by decide) ?_
  refine e_istore (lv' := [(4, .int (nI 0)), (3, .null), (0, .ref (Y.1 0)), (1, .long y)]) dX0_foremostBehind_3 (by decide) rfl ?_
  refine e_sub [0, 1, 2, 3] rfl ?_
  exact (L n 0 (by omega)).1 rfl

end Class15
