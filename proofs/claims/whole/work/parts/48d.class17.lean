/-! the class: going on -/
section Class17
variable {G : GG} {Z : Mem × YY} {m : Mem} {Y : YY} {ρ n : Nat} {kf : KF} {vf : VF}


theorem wg_leap {K : KF} {V : VF} {n1 w B q B2 : Nat} (hW : WF K n1) (hG : WG K V w B) (hQ : QT K n1 (w + q)) (hB : w + q + 1000 < 2 ^ 31 ∧ B ≤ B2) : WG (upd (c4 K) 0 (nI (w + q))) V (w + q) B2 := by
  have hn := hW.1.2
  have hnt := hW.nt
  have e : ∀ i, ¬ (i = 0 ∨ (7 ≤ i ∧ i < 11)) → upd (c4 K) 0 (nI (w + q)) i = K i := fun i hi => by rw [upd_ne _ _ (by omega), c4_at _ (by omega)]
  have nt : nT (upd (c4 K) 0 (nI (w + q))) = n1 := by unfold nT; rw [e 1 (by omega)]; exact hnt
  obtain ⟨g1, g2, g3, -⟩ := hG
  unfold WG
  rw [nt, e 5 (by omega), upd_eq]
  rw [hnt] at g1 g2
  refine ⟨fun t ht => ?_, fun l hl => by rw [e _ (by omega)]; exact g2 l hl, g3, w + q, rfl, by omega, by omega⟩
  obtain ⟨⟨a1, a2⟩, b1, c1, d1, ⟨f1, y, f3, f4, f5⟩, ⟨x, x1, x2⟩, s1⟩ := g1 t ht
  obtain ⟨-, y2, y3⟩ := hQ t ht
  have hTG : TG K V t (w + q) B2 := by
    refine ⟨⟨a1, fun z => ?_⟩, b1, c1, d1, ⟨f1, y, f3, by omega, fun z1 z2 => ?_⟩, ⟨x, x1, by omega⟩, s1⟩
    · obtain ⟨u, hu, hu1, hu2⟩ := a2 z
      obtain ⟨u', hu', hu3, hu4⟩ := y2 z
      rw [hu] at hu'
      have := (nI_eq (by omega) hu3).mp hu'
      exact ⟨u, hu, by omega, by omega⟩
    · obtain ⟨u', hu', hu3, hu4⟩ := y3 (due_iff.mpr z1) z2
      rw [f3] at hu'
      have := (nI_eq (by omega) hu3).mp hu'
      omega
  exact hTG.cg (fun w hw => e _ (by omega)) (fun i hi => e _ (by omega)) rfl

set_option maxRecDepth 100000 in
set_option maxHeartbeats 4000000 in
theorem k_goOn (hq : KQ Z m Y ρ kf vf n) (hρ : 62000 ≤ ρ) (hρ2 : ρ = 62000 ∨ ρ = 102000) (hW : WF kf n) {N z : Nat} (hN : N ≤ 1000) (hz : z + N ≤ 1001000) (hG : WG kf vf z (8000 * z)) (h0 : kf 0 = nI z) (lf : Nat → Int32) : EvC G 5 uX0_goOn [.ref (Y.1 0), .int (nI N)] m (fun r mm => r = some (.int (nI (rnL N (kf, vf, lf) 0).2)) ∧ ∃ Y2 n2, n ≤ n2 ∧ Sm Y Y2 ∧ KQ Z mm Y2 ρ (rnL N (kf, vf, lf) 0).1.1 (rnL N (kf, vf, lf) 0).1.2.1 n2) := by
  refine EvC.of (by decide +kernel) (Nat.le_of_ble_eq_true rfl) ?_
  have hn2 := hq.n2
  have L : ∀ (g f i d : Nat) (M : Mem) (Y1 : YY) (K : KF) (V : VF) (lf' : Nat → Int32) (n1 : Nat), f ≤ g → d + f = N → i ≤ d → KQ Z M Y1 ρ K V n1 → n ≤ n1 → Sm Y Y1 → WF K n1 → WG K V (z + d) (8000 * (z + d)) → K 0 = nI (z + d) → rnL f (K, V, lf') d = (rnL N (kf, vf, lf) 0) → EvR G 5 uX0_goOn (zz m) (nn m) (fun r mm => r = some (.int (nI (rnL N (kf, vf, lf) 0).2)) ∧ ∃ Y2 n2, n ≤ n2 ∧ Sm Y Y2 ∧ KQ Z mm Y2 ρ (rnL N (kf, vf, lf) 0).1.1 (rnL N (kf, vf, lf) 0).1.2.1 n2) 4 [(3, .int (nI i)), (2, .int (nI d)), (0, .ref (Y1.1 0)), (1, .int (nI N))] [] M := by
    intro g
    induction g with
    | zero =>
      intro f i d M Y1 K V lf' n1 hfg hd hi hI hn1 hS hWK hGK hK0 hT
      have hf0 : f = 0 := by omega
      subst hf0
      refine r_go (fun kk => e_iload_n 0 dX0_goOn_4 rfl kk) ?_
      refine r_go (fun kk => e_iload_n 3 dX0_goOn_5 rfl kk) ?_
      refine r_bl (fun ka kb => e_icmp_geN 122 dX0_goOn_6 (by decide) (by omega) (by omega) ka kb) (fun h1 => ?_) (fun h1 => ?_)
      · skip
        have h1' := Nat.not_lt.mpr h1
        refine r_go (fun kk => e_iload_n 1 dX0_goOn_122 rfl kk) ?_
        exact r_ret ⟨by rw [← hT]; rfl, Y1, n1, hn1, hS, by rw [← hT]; exact hI⟩ (e_retI dX0_goOn_123 rfl rfl rfl)
      · skip
        have h1' := Nat.not_le.mpr h1
        refine r_go (fun kk => e_iload_n 1 dX0_goOn_9 rfl kk) ?_
        refine r_go (fun kk => e_iload_n 3 dX0_goOn_10 rfl kk) ?_
        refine r_go (fun kk => e_icmp_geN 122 dX0_goOn_11 (by decide) (by omega) (by omega) (fun _ => kk) (fun h => absurd h (by omega))) ?_
        refine r_go (fun kk => e_iload_n 1 dX0_goOn_122 rfl kk) ?_
        exact r_ret ⟨by rw [← hT]; rfl, Y1, n1, hn1, hS, by rw [← hT]; exact hI⟩ (e_retI dX0_goOn_123 rfl rfl rfl)
    | succ g ih =>
      intro f i d M Y1 K V lf' n1 hfg hd hi hI hn1 hS hWK hGK hK0 hT
      by_cases hf0 : f = 0
      · subst hf0
        refine r_go (fun kk => e_iload_n 0 dX0_goOn_4 rfl kk) ?_
        refine r_go (fun kk => e_iload_n 3 dX0_goOn_5 rfl kk) ?_
        refine r_bl (fun ka kb => e_icmp_geN 122 dX0_goOn_6 (by decide) (by omega) (by omega) ka kb) (fun h1 => ?_) (fun h1 => ?_)
        · skip
          have h1' := Nat.not_lt.mpr h1
          refine r_go (fun kk => e_iload_n 1 dX0_goOn_122 rfl kk) ?_
          exact r_ret ⟨by rw [← hT]; rfl, Y1, n1, hn1, hS, by rw [← hT]; exact hI⟩ (e_retI dX0_goOn_123 rfl rfl rfl)
        · skip
          have h1' := Nat.not_le.mpr h1
          refine r_go (fun kk => e_iload_n 1 dX0_goOn_9 rfl kk) ?_
          refine r_go (fun kk => e_iload_n 3 dX0_goOn_10 rfl kk) ?_
          refine r_go (fun kk => e_icmp_geN 122 dX0_goOn_11 (by decide) (by omega) (by omega) (fun _ => kk) (fun h => absurd h (by omega))) ?_
          refine r_go (fun kk => e_iload_n 1 dX0_goOn_122 rfl kk) ?_
          exact r_ret ⟨by rw [← hT]; rfl, Y1, n1, hn1, hS, by rw [← hT]; exact hI⟩ (e_retI dX0_goOn_123 rfl rfl rfl)
      · obtain ⟨f, rfl⟩ : ∃ e, f = e + 1 := ⟨f - 1, by omega⟩
        obtain ⟨c, hc, hK3⟩ := hWK.2.2.2.2.2.2.2.1
        obtain ⟨P, hP1, hP4, hK2⟩ := hWK.2.2.2.2.2.2.2.2
        have hn3 := hI.n2
        refine r_go (fun kk => e_iload_n 0 dX0_goOn_4 rfl kk) ?_
        refine r_go (fun kk => e_iload_n 3 dX0_goOn_5 rfl kk) ?_
        refine r_go (fun kk => e_icmp_geN 122 dX0_goOn_6 (by decide) (by omega) (by omega) (fun h => absurd h (by omega)) (fun _ => kk)) ?_
        refine r_go (fun kk => e_iload_n 1 dX0_goOn_9 rfl kk) ?_
        refine r_go (fun kk => e_iload_n 3 dX0_goOn_10 rfl kk) ?_
        refine r_go (fun kk => e_icmp_geN 122 dX0_goOn_11 (by decide) (by omega) (by omega) (fun h => absurd h (by omega)) (fun _ => kk)) ?_
        refine r_go (fun kk => e_aload_n 2 dX0_goOn_14 rfl kk) ?_
        refine r_go (fun kk => e_getP (some (Y1.1 3)) dX0_goOn_15 fl_X0_26 rfl (hI.T 0 (by decide)) (hI.1.2.2.1.2.2.1) kk) ?_
        refine r_go (fun kk => e_callV (ci := 3) (st := []) (st1 := [.int (bI (decide (c + 4 ≤ 8000)))]) (As := []) (k_haveRoom hI hK3 hc) dX0_goOn_18 (by decide) cm_X3_haveRoom lk_X0_121 im_X3_haveRoom rfl sel_X3_haveRoom (hI.T 3 (by decide)) rfl rfl (Nat.le_of_ble_eq_true rfl) rfl kk) ?_
        refine r_bb (fun ka kb => e_if_eqB 122 dX0_goOn_21 (by decide) ka kb) (fun b1 => ?_) (fun b1 => ?_)
        · skip
          refine r_go (fun kk => e_iload_n 1 dX0_goOn_122 rfl kk) ?_
          have hnr : ¬ ((K, V, lf').1 3).toNatClampNeg + 4 ≤ 8000 := by
            show ¬ (K 3).toNatClampNeg + 4 ≤ 8000
            rw [hK3, nI_clamp (by omega)]
            exact of_decide_eq_false b1
          rw [rn_f hnr] at hT
          exact r_ret ⟨by rw [← hT], Y1, n1, hn1, hS, by rw [← hT]; exact hI⟩ (e_retI dX0_goOn_123 rfl rfl rfl)
        · skip
          have hroom : c + 4 ≤ 8000 := of_decide_eq_true (show decide _ = true from b1)
          refine r_go (fun kk => e_aload_n 2 dX0_goOn_24 rfl kk) ?_
          refine r_go (fun kk => e_iload_n 3 dX0_goOn_25 rfl kk) ?_
          refine r_go (fun kk => e_iload_n 1 dX0_goOn_26 rfl kk) ?_
          refine r_go (fun kk => e_isubN dX0_goOn_27 (by omega) kk) ?_
          obtain ⟨_, _, ⟨q, rfl, rfl, hqq⟩, E0x28⟩ := k_quietTicks (G := G) (z := z + d) (d := N - d) hI hWK hGK (by omega) (by omega) hK0
          refine r_go (fun kk => e_callV (ci := 0) (st := []) (st1 := [.int (nI q)]) (As := [.int (nI (N - d))]) (E0x28) dX0_goOn_28 (by decide) cm_X0_quietTicks lk_X0_125 im_X0_quietTicks rfl sel_X0_quietTicks (hI.T 0 (by decide)) rfl rfl (Nat.le_of_ble_eq_true rfl) rfl kk) ?_
          refine r_go (fun kk => e_istore (lv' := [(4, .int (nI q)), (3, .int (nI i)), (2, .int (nI d)), (0, .ref (Y1.1 0)), (1, .int (nI N))]) dX0_goOn_31 (by decide) rfl kk) ?_
          refine r_go (fun kk => e_iload 0 dX0_goOn_33 rfl kk) ?_
          refine r_b1 (fun ka kb => e_if_le 65 dX0_goOn_35 (by decide) ka kb) (fun q1 => ?_) (fun q1 => ?_)
          · skip
            have q1' := Int32.not_lt.mpr q1
            have hwk := wf_wkF hWK
            have hrh := (wg_wk hWK hGK (by omega) hK0).rh hwk (by omega) (by omega)
            have hw3 : wkF K 3 = nI c := (wkF_lo (by omega)).trans hK3
            have hw2 : wkF K 2 = nI P := (wkF_lo (by omega)).trans hK2
            have hC0 := tc_ci (lf := lf') hWK hK2 hK3
            have htc1 : tc1 K V lf' = lp (chS V) P (c4 (wkF K), lt0 lf') := by rw [tc1, hK2, nI_clamp (show P < 2 ^ 31 by omega)]
            have hCP := hC0.all (vf := V) (by omega) P hP4
            rw [← htc1] at hCP
            have hC4 : CI n1 c P 4 ((tc1 K V lf').1, (tc1 K V lf').2) := hCP.up hP4
            have hg1 : WG (tc1 K V lf').1 V (z + d + 1) (8000 * (z + d)) := by
              rw [htc1]
              exact wg_chS hC0 (by omega) ((wg_wk hWK hGK (by omega) hK0).cg hwk (fun i hi => c4_at _ (by unfold RG at hi; omega))) P hP4
            have htc2 : tc2 K V lf' = lp tuS 4 ((tc1 K V lf').1, V) := by
              have e : tc2 K V lf' = lp tuS P ((tc1 K V lf').1, V) := by rw [tc2, hK2, nI_clamp (show P < 2 ^ 31 by omega)]
              rw [e]
              have hU := UI.all (vf := V) hC4 P hP4
              refine (tu_quiet (P := P) (fun q hq1 hq2 => ?_) 4 (Nat.le_refl _) hP4 rfl _ rfl).symm
              rw [(hU.2.2.2.2 q hq2).1]
              exact (hCP.2.2.2 q hq2).resolve_right (fun z => by have := z.1; omega)
            have hroom2 : ((K, V, lf').1 3).toNatClampNeg + 4 ≤ 8000 := by
              show (K 3).toNatClampNeg + 4 ≤ 8000
              rw [hK3, nI_clamp (by omega)]
              exact hroom
            rw [rn_t hroom2] at hT
            obtain ⟨nT2, hnT2, hWT⟩ := wf_tc (vf := V) (lf := lf') hWK hK3 hroom
            obtain ⟨hGT, hT0⟩ := wg_tc (lf := lf') hWK hGK (by omega) hK0 hK3 hroom
            have L2 : ∀ (k p : Nat) (M2 : Mem) (Y2 : YY) (K2 : KF) (V2 : VF) (n2 : Nat), p + k = 4 → KQ Z M2 Y2 ρ K2 V2 n2 → Sm Y Y2 → lp tuS p ((tc1 K V lf').1, V) = (K2, V2) → EvR G 5 uX0_goOn (zz m) (nn m) (fun r mm => r = some (.int (nI (rnL N (kf, vf, lf) 0).2)) ∧ ∃ Y2 n2, n ≤ n2 ∧ Sm Y Y2 ∧ KQ Z mm Y2 ρ (rnL N (kf, vf, lf) 0).1.1 (rnL N (kf, vf, lf) 0).1.2.1 n2) 76 [(5, .int (nI p)), (2, .int (nI d)), (0, .ref (Y2.1 0)), (1, .int (nI N)), (3, .int (nI i))] [] M2 := by
              intro k
              induction k with
              | zero =>
                intro p M2 Y2 K2 V2 n2 hp hI2 hS2 hs2
                have hp4 : p = 4 := by omega
                rw [hp4, ← htc2] at hs2
                refine r_go (fun kk => e_iload 0 dX0_goOn_76 rfl kk) ?_
                refine r_go (fun kk => e_ic (nI 4) dX0_goOn_78 (by decide) kk) ?_
                refine r_go (fun kk => e_icmp_geN 103 dX0_goOn_79 (by decide) (by omega) (by omega) (fun _ => kk) (fun h => absurd h (by omega))) ?_
                refine r_go (fun kk => e_aload_n 2 dX0_goOn_103 rfl kk) ?_
                refine r_go (fun kk => e_dup dX0_goOn_104 rfl kk) ?_
                refine r_go (fun kk => e_getIv (K2 0) dX0_goOn_105 fl_X0_47 rfl (hI2.T 0 (by decide)) hI2.2.1.1.1 kk) ?_
                refine r_go (fun kk => e_ic (nI 1) dX0_goOn_108 (by decide) kk) ?_
                refine r_go (fun kk => e_iadd dX0_goOn_109 kk) ?_
                refine r_go (fun kk => e_putI (ci := 0) (k := 8) dX0_goOn_110 fl_X0_47 rfl (fun q h => by cases h; rfl) ⟨rfl, rfl⟩ (hI2.T 0 (by decide)) kk) ?_
                refine r_gen (fun mm => KQ Z mm Y2 ρ (upd K2 0 ((K2 0) + (nI 1))) V2 n2) (hI2.k hρ (by omega)) (fun m1 hz1 => ?_)
                refine r_go (fun kk => e_iinc1N (lv' := [(2, .int (nI (d + 1))), (5, .int (nI p)), (0, .ref (Y2.1 0)), (1, .int (nI N)), (3, .int (nI i))]) 1 dX0_goOn_113 rfl (by decide) rfl kk) ?_
                refine r_go (fun kk => e_iinc1N (lv' := [(3, .int (nI (i + 1))), (2, .int (nI (d + 1))), (5, .int (nI p)), (0, .ref (Y2.1 0)), (1, .int (nI N))]) 4 dX0_goOn_116 rfl (by decide) rfl kk) ?_
                refine r_go (fun kk => e_goto 4 dX0_goOn_119 (by decide) kk) ?_
                refine r_go (fun kk => e_sub [0, 1, 3, 4] rfl kk) ?_
                have hk : (tcF K V lf').1 = upd K2 0 (K2 0 + nI 1) := by
                  show upd (tc2 K V lf').1 0 ((tc2 K V lf').1 0 + nI 1) = _
                  rw [hs2]
                have hv : (tcF K V lf').2.1 = V2 := by
                  show (tc2 K V lf').2 = V2
                  rw [hs2]
                have hfin := hz1
                rw [← hk, ← hv] at hfin
                have hnn : n2 = nT2 := (nI_eq (by have := hI2.n2; omega) (by have := hWT.1.2; omega)).mp (hfin.n1.symm.trans hWT.1.1)
                subst hnn
                exact ih f (i + 1) (d + 1) _ Y2 _ _ (tcF K V lf').2.2 n2 (by omega) (by omega) (by omega) hfin (by omega) hS2 hWT (by rw [show 8000 * (z + (d + 1)) = 8000 * (z + d) + 8000 by omega]; exact hGT) hT0 hT
              | succ k ih2 =>
                intro p M2 Y2 K2 V2 n2 hp hI2 hS2 hs2
                have hU := UI.all (vf := V) hC4 p (by omega)
                have hgp := wg_tu hC4 hg1 p (by omega)
                rw [hs2] at hU hgp
                obtain ⟨⟨nW, hnW, hW2⟩, -, -, -, hUq⟩ := hU
                dsimp only at hW2 hUq hgp
                have hnw : n2 = nW := (nI_eq (by have := hI2.n2; omega) (by have := hW2.1.2; omega)).mp (hI2.n1.symm.trans hW2.1.1)
                subst hnw
                have hn6 := hI2.n2
                have hnx : lp tuS (p + 1) ((tc1 K V lf').1, V) = tuS p (K2, V2) := by
                  show tuS p (lp tuS p ((tc1 K V lf').1, V)) = _
                  rw [hs2]
                rcases hC4.2.2.2 p (by omega) with hm | ⟨-, b, hb, hbe, -, -, -⟩
                · have hch : K2 (7 + p) = -1 := (hUq p (by omega)).1.trans hm
                  have hneg : tIn K2 (-1) = false := Bool.eq_false_iff.mpr (fun w => by
                    obtain ⟨i5, hi5, e5⟩ := tIn_n hI2.n1 hn6 w
                    have := nI_pos' (n := i5) (by omega)
                    rw [← e5] at this
                    exact absurd this (by decide))
                  have htu : tuS p (K2, V2) = (K2, V2) := if_pos (show K2 (7 + p) < 0 by rw [hch]; decide)
                  refine r_go (fun kk => e_iload 0 dX0_goOn_76 rfl kk) ?_
                  refine r_go (fun kk => e_ic (nI 4) dX0_goOn_78 (by decide) kk) ?_
                  refine r_go (fun kk => e_icmp_geN 103 dX0_goOn_79 (by decide) (by omega) (by omega) (fun h => absurd h (by omega)) (fun _ => kk)) ?_
                  refine r_go (fun kk => e_aload_n 2 dX0_goOn_82 rfl kk) ?_
                  refine r_go (fun kk => e_aload_n 2 dX0_goOn_83 rfl kk) ?_
                  refine r_go (fun kk => e_aload_n 2 dX0_goOn_84 rfl kk) ?_
                  refine r_go (fun kk => e_getP (some (Y2.1 6)) dX0_goOn_85 fl_X0_34 rfl (hI2.T 0 (by decide)) (hI2.1.2.2.1.2.2.2.2.1) kk) ?_
                  refine r_go (fun kk => e_iload 0 dX0_goOn_88 rfl kk) ?_
                  refine r_go (fun kk => e_ialdN (K2 (7 + p)) dX0_goOn_90 (hI2.T 6 (by decide)) (by rw [hI2.1.2.1.2.2.2.1]; exact (by omega)) (by rw [hI2.1.2.1.2.2.2.1]; decide) (hI2.2.1.2.1.1 p (by omega)) kk) ?_
                  refine r_go (fun kk => e_callV (ci := 0) (st := [.ref (Y2.1 0)]) (st1 := [.null, .ref (Y2.1 0)]) (As := [.int (K2 (7 + p))]) (k_taskAtN hI2 (x := K2 (7 + p)) (by rw [hch]; exact hneg)) dX0_goOn_91 (by decide) cm_X0_taskAt lk_X0_89 im_X0_taskAt rfl sel_X0_taskAt (hI2.T 0 (by decide)) rfl rfl (Nat.le_of_ble_eq_true rfl) rfl kk) ?_
                  obtain ⟨_, m1, ⟨rfl, hz1⟩, E1x94⟩ := k_turnN (G := G) hI2
                  refine r_go (fun kk => e_callV (ci := 0) (st := []) (st1 := []) (As := [.null]) (E1x94) dX0_goOn_94 (by decide) cm_X0_turn lk_X0_135 im_X0_turn rfl sel_X0_turn (hI2.T 0 (by decide)) rfl rfl (Nat.le_of_ble_eq_true rfl) rfl kk) ?_
                  refine r_go (fun kk => e_iinc1N (lv' := [(5, .int (nI (p + 1))), (2, .int (nI d)), (0, .ref (Y2.1 0)), (1, .int (nI N)), (3, .int (nI i))]) 0 dX0_goOn_97 rfl (by decide) rfl kk) ?_
                  refine r_go (fun kk => e_goto 76 dX0_goOn_100 (by decide) kk) ?_
                  refine r_go (fun kk => e_sub [0, 1, 2, 3, 4] rfl kk) ?_
                  exact ih2 (p + 1) m1 Y2 K2 V2 n2 (by omega) hz1 hS2 (hnx.trans htu)
                · have hch : K2 (7 + p) = nI b := (hUq p (by omega)).1.trans hbe
                  have hb6 := (hUq p (by omega)).2 (Nat.le_refl _) b hb hbe
                  have htu : tuS p (K2, V2) = tnF K2 V2 b := (if_neg (show ¬ K2 (7 + p) < 0 by rw [hch]; exact nI_pos (by omega))).trans (by show tnF K2 V2 (K2 (7 + p)).toNatClampNeg = _; rw [hch, nI_clamp (by omega)])
                  refine r_go (fun kk => e_iload 0 dX0_goOn_76 rfl kk) ?_
                  refine r_go (fun kk => e_ic (nI 4) dX0_goOn_78 (by decide) kk) ?_
                  refine r_go (fun kk => e_icmp_geN 103 dX0_goOn_79 (by decide) (by omega) (by omega) (fun h => absurd h (by omega)) (fun _ => kk)) ?_
                  refine r_go (fun kk => e_aload_n 2 dX0_goOn_82 rfl kk) ?_
                  refine r_go (fun kk => e_aload_n 2 dX0_goOn_83 rfl kk) ?_
                  refine r_go (fun kk => e_aload_n 2 dX0_goOn_84 rfl kk) ?_
                  refine r_go (fun kk => e_getP (some (Y2.1 6)) dX0_goOn_85 fl_X0_34 rfl (hI2.T 0 (by decide)) (hI2.1.2.2.1.2.2.2.2.1) kk) ?_
                  refine r_go (fun kk => e_iload 0 dX0_goOn_88 rfl kk) ?_
                  refine r_go (fun kk => e_ialdN (K2 (7 + p)) dX0_goOn_90 (hI2.T 6 (by decide)) (by rw [hI2.1.2.1.2.2.2.1]; exact (by omega)) (by rw [hI2.1.2.1.2.2.2.1]; decide) (hI2.2.1.2.1.1 p (by omega)) (e_iv (w := nI b) (hch) kk)) ?_
                  refine r_go (fun kk => e_callV (ci := 0) (st := [.ref (Y2.1 0)]) (st1 := [.ref (Y2.1 (9 + b)), .ref (Y2.1 0)]) (As := [.int (nI b)]) (k_taskAt hI2 (j := b) (by omega)) dX0_goOn_91 (by decide) cm_X0_taskAt lk_X0_89 im_X0_taskAt rfl sel_X0_taskAt (hI2.T 0 (by decide)) rfl rfl (Nat.le_of_ble_eq_true rfl) rfl kk) ?_
                  obtain ⟨_, m1, ⟨rfl, Y3, n3, hn3b, hS3, hz1⟩, E1x94⟩ := k_turn (G := G) hI2 hρ (t := b) (by omega) hW2 hgp (by omega) (by omega) hb6
                  refine r_go (fun kk => e_callV (ci := 0) (st := []) (st1 := []) (As := [.ref (Y2.1 (9 + b))]) (E1x94) dX0_goOn_94 (by decide) cm_X0_turn lk_X0_135 im_X0_turn rfl sel_X0_turn (hI2.T 0 (by decide)) rfl rfl (Nat.le_of_ble_eq_true rfl) rfl kk) ?_
                  refine r_go (fun kk => e_iinc1N (lv' := [(5, .int (nI (p + 1))), (2, .int (nI d)), (0, .ref (Y2.1 0)), (1, .int (nI N)), (3, .int (nI i))]) 0 dX0_goOn_97 rfl (by decide) rfl kk) ?_
                  refine r_go (fun kk => e_goto 76 dX0_goOn_100 (by decide) kk) ?_
                  refine r_go (fun kk => e_sub [0, 1, 2, 3, 4] rfl kk) ?_
                  refine r_go (fun kk => e_lvs (lv' := [(5, .int (nI (p + 1))), (2, .int (nI d)), (0, .ref (Y3.1 0)), (1, .int (nI N)), (3, .int (nI i))]) (by rw [hS3 0 (by omega)]; rfl) kk) ?_
                  exact ih2 (p + 1) m1 Y3 _ _ n3 (by omega) hz1 (hS2.tr hS3) (hnx.trans htu)
            refine r_go (fun kk => e_aload_n 3 dX0_goOn_65 rfl kk) ?_
            obtain ⟨_, m1, ⟨rfl, hz1⟩, E1x66⟩ := k_wakeAndRefill (G := G) hI hρ
            refine r_go (fun kk => e_callV (ci := 0) (st := []) (st1 := []) (As := []) (E1x66) dX0_goOn_66 (by decide) cm_X0_wakeAndRefill lk_X0_129 im_X0_wakeAndRefill rfl sel_X0_wakeAndRefill (hI.T 0 (by decide)) rfl rfl (Nat.le_of_ble_eq_true rfl) rfl kk) ?_
            refine r_go (fun kk => e_aload_n 3 dX0_goOn_69 rfl kk) ?_
            obtain ⟨_, m2, ⟨rfl, Y2, hS2, hz2⟩, E2x70⟩ := k_choose (G := G) hz1 hρ hρ2 hwk hrh hw3 hroom hw2 hP4 lf'
            refine r_go (fun kk => e_callV (ci := 0) (st := []) (st1 := []) (As := []) (E2x70) dX0_goOn_70 (by decide) cm_X0_choose lk_X0_132 im_X0_choose rfl sel_X0_choose (hz1.T 0 (by decide)) rfl rfl (Nat.le_of_ble_eq_true rfl) rfl kk) ?_
            refine r_go (fun kk => e_ic (nI 0) dX0_goOn_73 (by decide) kk) ?_
            refine r_go (fun kk => e_istore (lv' := [(5, .int (nI 0)), (4, .int (nI q)), (3, .int (nI i)), (2, .int (nI d)), (0, .ref (Y1.1 0)), (1, .int (nI N))]) dX0_goOn_74 (by decide) rfl kk) ?_
            rw [← htc1] at hz2
            refine r_go (fun kk => e_sub [0, 3, 4, 5, 2] rfl kk) ?_
            refine r_go (fun kk => e_lvs (lv' := [(5, .int (nI 0)), (2, .int (nI d)), (0, .ref (Y2.1 0)), (1, .int (nI N)), (3, .int (nI i))]) (by rw [hS2 0 (by omega)]; rfl) kk) ?_
            exact L2 4 0 m2 Y2 _ _ n1 (by omega) hz2 (hS.tr hS2) rfl
          · skip
            have q1' := Int32.not_le.mp q1
            have hq0 : 0 < q := by
              refine Nat.pos_of_ne_zero (fun z0 => q1 ?_)
              rw [z0]
              exact Int32.le_refl _
            obtain ⟨hq2, hQT⟩ := hqq.resolve_left (by omega)
            refine r_go (fun kk => e_aload_n 3 dX0_goOn_38 rfl kk) ?_
            refine r_go (fun kk => e_getP (some (Y1.1 6)) dX0_goOn_39 fl_X0_34 rfl (hI.T 0 (by decide)) (hI.1.2.2.1.2.2.2.2.1) kk) ?_
            refine r_go (fun kk => e_ic ((-1)) dX0_goOn_42 (by decide) kk) ?_
            refine r_go (fun kk => e_callS (st := []) (st1 := []) (As := [.ref (Y1.1 6), .int (-1)]) (a_fillI (G := G) (x := -1) (hI.T 6 (by decide)) (by rw [hI.1.2.1.2.2.2.1]; decide)) dX0_goOn_43 (by decide) cm_J7_fill_53178 lk_X0_63 sm_J7_fill_53178 rfl rfl (Nat.le_of_ble_eq_true rfl) rfl kk) ?_
            rw [hI.1.2.1.2.2.2.1]
            refine r_gen (fun mm => KQ Z mm Y1 ρ (c4 K) V n1) (hI.c4 hρ) (fun M9 hI9 => ?_)
            refine r_go (fun kk => e_aload_n 3 dX0_goOn_46 rfl kk) ?_
            refine r_go (fun kk => e_dup dX0_goOn_47 rfl kk) ?_
            refine r_go (fun kk => e_getIv ((c4 K) 0) dX0_goOn_48 fl_X0_47 rfl (hI9.T 0 (by decide)) hI9.2.1.1.1 (e_iv (w := nI (z + d)) ((c4_at _ (by omega)).trans hK0) kk)) ?_
            refine r_go (fun kk => e_iload 0 dX0_goOn_51 rfl kk) ?_
            refine r_go (fun kk => e_iaddN dX0_goOn_53 kk) ?_
            refine r_go (fun kk => e_putI (ci := 0) (k := 8) dX0_goOn_54 fl_X0_47 rfl (fun q h => by cases h; rfl) ⟨rfl, rfl⟩ (hI9.T 0 (by decide)) kk) ?_
            refine r_gen (fun mm => KQ Z mm Y1 ρ (upd (c4 K) 0 (nI ((z + d) + q))) V n1) (hI9.k hρ (by omega)) (fun m1 hz1 => ?_)
            refine r_go (fun kk => e_iload_n 2 dX0_goOn_57 rfl kk) ?_
            refine r_go (fun kk => e_iload 0 dX0_goOn_58 rfl kk) ?_
            refine r_go (fun kk => e_iaddN dX0_goOn_60 kk) ?_
            refine r_go (fun kk => e_istore_n (lv' := [(2, .int (nI (d + q))), (4, .int (nI q)), (3, .int (nI i)), (0, .ref (Y1.1 0)), (1, .int (nI N))]) dX0_goOn_61 (by decide) rfl kk) ?_
            refine r_go (fun kk => e_goto 116 dX0_goOn_62 (by decide) kk) ?_
            refine r_go (fun kk => e_iinc1N (lv' := [(3, .int (nI (i + 1))), (2, .int (nI (d + q))), (4, .int (nI q)), (0, .ref (Y1.1 0)), (1, .int (nI N))]) 2 dX0_goOn_116 rfl (by decide) rfl kk) ?_
            refine r_go (fun kk => e_goto 4 dX0_goOn_119 (by decide) kk) ?_
            obtain ⟨lf2, hrn⟩ := rn_quiet (vf := V) q (f + 1) (z + d) d K lf' (by omega) hq0 hWK (by omega) hK0 hK3 hroom hQT
            refine r_go (fun kk => e_sub [0, 1, 3, 4] rfl kk) ?_
            exact ih (f + 1 - q) (i + 1) (d + q) m1 Y1 (upd (c4 K) 0 (nI (z + d + q))) V lf2 n1 (by omega) (by omega) (by omega) hz1 hn1 hS (wf_upd (wf_c4 hWK) (by unfold rel; omega)) (by have hlp := wg_leap (B2 := 8000 * (z + (d + q))) hWK hGK hQT (by omega); rw [show z + d + q = z + (d + q) by omega] at hlp ⊢; exact hlp) (by rw [upd_eq, show z + d + q = z + (d + q) by omega]) (by rw [← hT, hrn])
  refine r_go (fun kk => e_lvs (lv' := [(0, .ref (Y.1 0)), (1, .int (nI N))]) rfl kk) ?_
  refine r_go (fun kk => e_ic (nI 0) dX0_goOn_0 (by decide) kk) ?_
  refine r_go (fun kk => e_istore_n (lv' := [(2, .int (nI 0)), (0, .ref (Y.1 0)), (1, .int (nI N))]) dX0_goOn_1 (by decide) rfl kk) ?_
  refine r_go (fun kk => e_ic (nI 0) dX0_goOn_2 (by decide) kk) ?_
  refine r_go (fun kk => e_istore_n (lv' := [(3, .int (nI 0)), (2, .int (nI 0)), (0, .ref (Y.1 0)), (1, .int (nI N))]) dX0_goOn_3 (by decide) rfl kk) ?_
  refine r_go (fun kk => e_sub [0, 1, 2, 3] rfl kk) ?_
  exact L N N 0 0 m Y kf vf lf n (Nat.le_refl _) (by omega) (Nat.le_refl _) hq (Nat.le_refl _) (Sm.rf Y) hW hG h0 rfl

end Class17
