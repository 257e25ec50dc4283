/-! the class: a turn -/
section Class14
variable {G : GG} {Z : Mem × YY} {m : Mem} {Y : YY} {ρ n : Nat} {kf : KF} {vf : VF}
theorem oc_pos {x : Int32} (h : 0 < x) : oc x = x := if_pos h

set_option maxRecDepth 100000 in
set_option maxHeartbeats 4000000 in
theorem k_turn (hq : KQ Z m Y ρ kf vf n) (hρ : 62000 ≤ ρ) {t : Nat} (ht : t < n) (hW : WF kf n) {c B : Nat} (hG : WG kf vf c B) (hB : B + 2000 < 2 ^ 40) (hc : c < 2 ^ 30) (h6 : kg kf t 6 = 0) : EvC G 4 uX0_turn [.ref (Y.1 0), .ref (Y.1 (9 + t))] m (fun r mm => r = none ∧ ∃ Y2 n2, n ≤ n2 ∧ Sm Y Y2 ∧ KQ Z mm Y2 ρ (tnF kf vf t).1 (tnF kf vf t).2 n2) := by
  refine EvC.of (by decide +kernel) (Nat.le_of_ble_eq_true rfl) ?_
  have hn2 := hq.n2
  have L : ∀ (f i a : Nat) (M : Mem) (Y1 : YY) (K : KF) (V : VF) (n1 : Nat), i + f = 502 → KQ Z M Y1 ρ K V n1 ∧ n ≤ n1 ∧ Sm Y Y1 ∧ WF K n1 ∧ WG K V c (B + 2000) ∧ kg K t 6 = 0 ∧ kg K t 5 = nI a ∧ a ≤ 1001 ∧ 2 * i ≤ a ∧ tnL f K V t = tnF kf vf t → EvR G 4 uX0_turn (zz m) (nn m) (fun r mm => r = none ∧ ∃ Y2 n2, n ≤ n2 ∧ Sm Y Y2 ∧ KQ Z mm Y2 ρ (tnF kf vf t).1 (tnF kf vf t).2 n2) 14 [(3, .int (nI i)), (2, .int (-1)), (0, .ref (Y1.1 0)), (1, .ref (Y1.1 (9 + t)))] [] M := by
    intro f
    induction f with
    | zero =>
      intro i a M Y1 K V n1 hi hI
      omega
    | succ f ih =>
      intro i a M Y1 K V n1 hi hI
      obtain ⟨hI, hn1, hS, hWK, hGK, h6K, h5K, ha, hia, hT⟩ := hI
      have hn3 := hI.n2
      have htn : t < n1 := by omega
      obtain ⟨⟨hgA, -⟩, -⟩ := hGK.at hWK htn
      obtain ⟨h7K, h8K⟩ := hgA h6K
      refine r_go (fun kk => e_iload_n 0 dX0_turn_14 rfl kk) ?_
      refine r_go (fun kk => e_sipush (v := nI 1000) dX0_turn_15 (by decide) kk) ?_
      refine r_go (fun kk => e_icmp_gtN 38 dX0_turn_18 (by decide) (by omega) (by omega) (fun h => absurd h (by omega)) (fun _ => kk)) ?_
      refine r_go (fun kk => e_iload_n 1 dX0_turn_21 rfl kk) ?_
      refine r_go (fun kk => e_ic ((-1)) dX0_turn_22 (by decide) kk) ?_
      refine r_go (fun kk => e_icmp_ne 38 dX0_turn_23 (by decide) (fun h => absurd h (by decide)) (fun _ => kk)) ?_
      by_cases h4 : 0 < kg K t 4
      · skip
        refine r_go (fun kk => e_aload_n 2 dX0_turn_26 rfl kk) ?_
        refine r_go (fun kk => e_aload_n 3 dX0_turn_27 rfl kk) ?_
        obtain ⟨_, m1, ⟨rfl, hz1⟩, E1x28⟩ := k_actW (G := G) hI hρ htn h4
        refine r_go (fun kk => e_callV (ci := 0) (st := []) (st1 := [.int (-2)]) (As := [.ref (Y1.1 (9 + t))]) (E1x28) dX0_turn_28 (by decide) cm_X0_act lk_X0_193 im_X0_act rfl sel_X0_act (hI.T 0 (by decide)) rfl rfl (Nat.le_of_ble_eq_true rfl) rfl kk) ?_
        refine r_go (fun kk => e_istore_n (lv' := [(2, .int (-2)), (3, .int (nI i)), (0, .ref (Y1.1 0)), (1, .ref (Y1.1 (9 + t)))]) dX0_turn_31 (by decide) rfl kk) ?_
        refine r_go (fun kk => e_iinc1N (lv' := [(3, .int (nI (i + 1))), (2, .int (-2)), (0, .ref (Y1.1 0)), (1, .ref (Y1.1 (9 + t)))]) 1 dX0_turn_32 rfl (by decide) rfl kk) ?_
        refine r_go (fun kk => e_goto 14 dX0_turn_35 (by decide) kk) ?_
        refine r_go (fun kk => e_iload_n 0 dX0_turn_14 rfl kk) ?_
        refine r_go (fun kk => e_sipush (v := nI 1000) dX0_turn_15 (by decide) kk) ?_
        refine r_go (fun kk => e_icmp_gtN 38 dX0_turn_18 (by decide) (by omega) (by omega) (fun h => absurd h (by omega)) (fun _ => kk)) ?_
        refine r_go (fun kk => e_iload_n 1 dX0_turn_21 rfl kk) ?_
        refine r_go (fun kk => e_ic ((-1)) dX0_turn_22 (by decide) kk) ?_
        refine r_go (fun kk => e_icmp_ne 38 dX0_turn_23 (by decide) (fun _ => kk) (fun h => absurd h (by decide))) ?_
        refine r_go (fun kk => e_iload_n 1 dX0_turn_38 rfl kk) ?_
        refine r_go (fun kk => e_if_lt 48 dX0_turn_39 (by decide) (fun _ => kk) (fun h => absurd h (by decide))) ?_
        exact r_ret ⟨rfl, Y1, n1, hn1, hS, by rw [← hT, tn_w f h4]; exact hz1⟩ (e_retV dX0_turn_48 rfl rfl)
      · have hE := k_act (G := G) hI hρ htn hWK hGK hB hc h6K h4
        have hg2 := wg_act hWK hGK htn h6K
        obtain ⟨⟨nW, hnW, hW2⟩, -, hk6⟩ := lf_act (vf := V) hWK htn h6K
        obtain ⟨_, M2, ⟨hr, Y2, n2, hn12, hS2, hI2⟩, E⟩ := hE
        have hn5 := hI2.n2
        rcases vO_act K V t with hA | hA | hA | hA
        · skip
          rw [oc_pos hA] at hr
          subst hr
          rw [acE, if_neg (by rw [oc_pos hA]; exact Int32.not_lt.mpr (Int32.le_of_lt hA))] at hI2
          have hne : ¬ (actF K V t).1 = -1 := fun z => by rw [z] at hA; exact absurd hA (by decide)
          obtain ⟨⟨hgA2, -⟩, -⟩ := hg2.at hW2 (show t < nW by omega)
          obtain ⟨h7A, h8A⟩ := hgA2 (by rw [hk6 hne]; exact h6K)
          refine r_go (fun kk => e_aload_n 2 dX0_turn_26 rfl kk) ?_
          refine r_go (fun kk => e_aload_n 3 dX0_turn_27 rfl kk) ?_
          refine r_go (fun kk => e_callV (ci := 0) (st := []) (st1 := [.int ((actF K V t).1)]) (As := [.ref (Y1.1 (9 + t))]) (E) dX0_turn_28 (by decide) cm_X0_act lk_X0_193 im_X0_act rfl sel_X0_act (hI.T 0 (by decide)) rfl rfl (Nat.le_of_ble_eq_true rfl) rfl kk) ?_
          refine r_go (fun kk => e_istore_n (lv' := [(2, .int ((actF K V t).1)), (3, .int (nI i)), (0, .ref (Y1.1 0)), (1, .ref (Y1.1 (9 + t)))]) dX0_turn_31 (by decide) rfl kk) ?_
          refine r_go (fun kk => e_lvs (lv' := [(2, .int ((actF K V t).1)), (3, .int (nI i)), (0, .ref (Y2.1 0)), (1, .ref (Y2.1 (9 + t)))]) (by rw [hS2 0 (by omega), hS2 (9 + t) (by omega)]) kk) ?_
          refine r_go (fun kk => e_iinc1N (lv' := [(3, .int (nI (i + 1))), (2, .int ((actF K V t).1)), (0, .ref (Y2.1 0)), (1, .ref (Y2.1 (9 + t)))]) 1 dX0_turn_32 rfl (by decide) rfl kk) ?_
          refine r_go (fun kk => e_goto 14 dX0_turn_35 (by decide) kk) ?_
          refine r_go (fun kk => e_iload_n 0 dX0_turn_14 rfl kk) ?_
          refine r_go (fun kk => e_sipush (v := nI 1000) dX0_turn_15 (by decide) kk) ?_
          refine r_go (fun kk => e_icmp_gtN 38 dX0_turn_18 (by decide) (by omega) (by omega) (fun h => absurd h (by omega)) (fun _ => kk)) ?_
          refine r_go (fun kk => e_iload_n 1 dX0_turn_21 rfl kk) ?_
          refine r_go (fun kk => e_ic ((-1)) dX0_turn_22 (by decide) kk) ?_
          refine r_go (fun kk => e_icmp_ne 38 dX0_turn_23 (by decide) (fun _ => kk) (fun h => absurd h (hne))) ?_
          refine r_go (fun kk => e_iload_n 1 dX0_turn_38 rfl kk) ?_
          refine r_go (fun kk => e_if_lt 48 dX0_turn_39 (by decide) (fun h => absurd h (Int32.not_lt.mpr (Int32.le_of_lt hA))) (fun _ => kk)) ?_
          refine r_go (fun kk => e_aload_n 2 dX0_turn_42 rfl kk) ?_
          refine r_go (fun kk => e_aload_n 3 dX0_turn_43 rfl kk) ?_
          refine r_go (fun kk => e_iload_n 1 dX0_turn_44 rfl kk) ?_
          obtain rfl : n2 = nW := (nI_eq (by omega) (by have := hW2.1.2; omega)).mp (hI2.n1.symm.trans hW2.1.1)
          obtain ⟨_, m1, ⟨rfl, hz1⟩, E1x45⟩ := k_end (G := G) hI2 hρ (t := t) (by omega) hW2 hg2 hB hc h7A h8A (actF K V t).1
          refine r_go (fun kk => e_callV (ci := 0) (st := []) (st1 := []) (As := [.ref (Y2.1 (9 + t)), .int ((actF K V t).1)]) (E1x45) dX0_turn_45 (by decide) cm_X0_end lk_X0_197 im_X0_end rfl sel_X0_end (hI2.T 0 (by decide)) rfl rfl (Nat.le_of_ble_eq_true rfl) rfl kk) ?_
          exact r_ret ⟨rfl, Y2, n2, by omega, hS.tr hS2, by rw [← hT, tn_p f h4 hA]; dsimp only; exact hz1⟩ (e_retV dX0_turn_48 rfl rfl)
        · skip
          rw [show oc (actF K V t).1 = -1 by rw [hA]; decide] at hr
          subst hr
          rw [acE, if_pos (by rw [hA]; decide)] at hI2
          have c2 : ¬ 0 < (actF K V t).1 := by rw [hA]; decide
          have c3 : ¬ (actF K V t).1 = -2 := by rw [hA]; decide
          have c4 : ¬ (actF K V t).1 = -1 := by rw [hA]; decide
          obtain ⟨ha2, n4, hn4, hW4, h54⟩ := act_on (vf := V) hWK htn h6K h5K ha c2 c3
          have hn42 : n4 = n2 := (nI_eq (by have := hW4.1.2; omega) (by omega)).mp (hW4.1.1.symm.trans hI2.n1)
          subst hn42
          have hg4 : WG (ks (actF K V t).2.1 t 5 (kg (actF K V t).2.1 t 5 + nI 2)) (actF K V t).2.2 c (B + 2000) := wg_ks hW2 hg2 (by omega) (by omega)
          refine r_go (fun kk => e_aload_n 2 dX0_turn_26 rfl kk) ?_
          refine r_go (fun kk => e_aload_n 3 dX0_turn_27 rfl kk) ?_
          refine r_go (fun kk => e_callV (ci := 0) (st := []) (st1 := [.int (-1)]) (As := [.ref (Y1.1 (9 + t))]) (E) dX0_turn_28 (by decide) cm_X0_act lk_X0_193 im_X0_act rfl sel_X0_act (hI.T 0 (by decide)) rfl rfl (Nat.le_of_ble_eq_true rfl) rfl kk) ?_
          refine r_go (fun kk => e_istore_n (lv' := [(2, .int (-1)), (3, .int (nI i)), (0, .ref (Y1.1 0)), (1, .ref (Y1.1 (9 + t)))]) dX0_turn_31 (by decide) rfl kk) ?_
          refine r_go (fun kk => e_lvs (lv' := [(2, .int (-1)), (3, .int (nI i)), (0, .ref (Y2.1 0)), (1, .ref (Y2.1 (9 + t)))]) (by rw [hS2 0 (by omega), hS2 (9 + t) (by omega)]) kk) ?_
          refine r_go (fun kk => e_iinc1N (lv' := [(3, .int (nI (i + 1))), (2, .int (-1)), (0, .ref (Y2.1 0)), (1, .ref (Y2.1 (9 + t)))]) 1 dX0_turn_32 rfl (by decide) rfl kk) ?_
          refine r_go (fun kk => e_goto 14 dX0_turn_35 (by decide) kk) ?_
          refine r_go (fun kk => e_sub [0, 1, 2, 3] rfl kk) ?_
          exact ih (i + 1) (a + 2) M2 Y2 _ _ n4 (by omega) ⟨hI2, by omega, hS.tr hS2, hW4, hg4, by rw [kg_ne _ _ _ _ _ _ (by decide) (by decide) (by decide), hk6 c4]; exact h6K, h54, ha2, by omega, by rw [← hT, tn_n f h4 c2 c3 c4]⟩
        · skip
          rw [show oc (actF K V t).1 = -2 by rw [hA]; decide] at hr
          subst hr
          rw [acE, if_pos (by rw [hA]; decide)] at hI2
          refine r_go (fun kk => e_aload_n 2 dX0_turn_26 rfl kk) ?_
          refine r_go (fun kk => e_aload_n 3 dX0_turn_27 rfl kk) ?_
          refine r_go (fun kk => e_callV (ci := 0) (st := []) (st1 := [.int (-2)]) (As := [.ref (Y1.1 (9 + t))]) (E) dX0_turn_28 (by decide) cm_X0_act lk_X0_193 im_X0_act rfl sel_X0_act (hI.T 0 (by decide)) rfl rfl (Nat.le_of_ble_eq_true rfl) rfl kk) ?_
          refine r_go (fun kk => e_istore_n (lv' := [(2, .int (-2)), (3, .int (nI i)), (0, .ref (Y1.1 0)), (1, .ref (Y1.1 (9 + t)))]) dX0_turn_31 (by decide) rfl kk) ?_
          refine r_go (fun kk => e_lvs (lv' := [(2, .int (-2)), (3, .int (nI i)), (0, .ref (Y2.1 0)), (1, .ref (Y2.1 (9 + t)))]) (by rw [hS2 0 (by omega), hS2 (9 + t) (by omega)]) kk) ?_
          refine r_go (fun kk => e_iinc1N (lv' := [(3, .int (nI (i + 1))), (2, .int (-2)), (0, .ref (Y2.1 0)), (1, .ref (Y2.1 (9 + t)))]) 1 dX0_turn_32 rfl (by decide) rfl kk) ?_
          refine r_go (fun kk => e_goto 14 dX0_turn_35 (by decide) kk) ?_
          refine r_go (fun kk => e_iload_n 0 dX0_turn_14 rfl kk) ?_
          refine r_go (fun kk => e_sipush (v := nI 1000) dX0_turn_15 (by decide) kk) ?_
          refine r_go (fun kk => e_icmp_gtN 38 dX0_turn_18 (by decide) (by omega) (by omega) (fun h => absurd h (by omega)) (fun _ => kk)) ?_
          refine r_go (fun kk => e_iload_n 1 dX0_turn_21 rfl kk) ?_
          refine r_go (fun kk => e_ic ((-1)) dX0_turn_22 (by decide) kk) ?_
          refine r_go (fun kk => e_icmp_ne 38 dX0_turn_23 (by decide) (fun _ => kk) (fun h => absurd h (by decide))) ?_
          refine r_go (fun kk => e_iload_n 1 dX0_turn_38 rfl kk) ?_
          refine r_go (fun kk => e_if_lt 48 dX0_turn_39 (by decide) (fun _ => kk) (fun h => absurd h (by decide))) ?_
          exact r_ret ⟨rfl, Y2, n2, by omega, hS.tr hS2, by rw [← hT, tn_o f h4 (by rw [hA]; decide) (by rw [hA]; decide) hA]; exact hI2⟩ (e_retV dX0_turn_48 rfl rfl)
        · skip
          rw [show oc (actF K V t).1 = nI 0 by rw [hA]; decide] at hr
          subst hr
          rw [acE, if_neg (by rw [hA]; decide)] at hI2
          have hne : ¬ (actF K V t).1 = -1 := by rw [hA]; decide
          obtain ⟨⟨hgA2, -⟩, -⟩ := hg2.at hW2 (show t < nW by omega)
          obtain ⟨h7A, h8A⟩ := hgA2 (by rw [hk6 hne]; exact h6K)
          refine r_go (fun kk => e_aload_n 2 dX0_turn_26 rfl kk) ?_
          refine r_go (fun kk => e_aload_n 3 dX0_turn_27 rfl kk) ?_
          refine r_go (fun kk => e_callV (ci := 0) (st := []) (st1 := [.int (nI 0)]) (As := [.ref (Y1.1 (9 + t))]) (E) dX0_turn_28 (by decide) cm_X0_act lk_X0_193 im_X0_act rfl sel_X0_act (hI.T 0 (by decide)) rfl rfl (Nat.le_of_ble_eq_true rfl) rfl kk) ?_
          refine r_go (fun kk => e_istore_n (lv' := [(2, .int (nI 0)), (3, .int (nI i)), (0, .ref (Y1.1 0)), (1, .ref (Y1.1 (9 + t)))]) dX0_turn_31 (by decide) rfl kk) ?_
          refine r_go (fun kk => e_lvs (lv' := [(2, .int (nI 0)), (3, .int (nI i)), (0, .ref (Y2.1 0)), (1, .ref (Y2.1 (9 + t)))]) (by rw [hS2 0 (by omega), hS2 (9 + t) (by omega)]) kk) ?_
          refine r_go (fun kk => e_iinc1N (lv' := [(3, .int (nI (i + 1))), (2, .int (nI 0)), (0, .ref (Y2.1 0)), (1, .ref (Y2.1 (9 + t)))]) 1 dX0_turn_32 rfl (by decide) rfl kk) ?_
          refine r_go (fun kk => e_goto 14 dX0_turn_35 (by decide) kk) ?_
          refine r_go (fun kk => e_iload_n 0 dX0_turn_14 rfl kk) ?_
          refine r_go (fun kk => e_sipush (v := nI 1000) dX0_turn_15 (by decide) kk) ?_
          refine r_go (fun kk => e_icmp_gtN 38 dX0_turn_18 (by decide) (by omega) (by omega) (fun h => absurd h (by omega)) (fun _ => kk)) ?_
          refine r_go (fun kk => e_iload_n 1 dX0_turn_21 rfl kk) ?_
          refine r_go (fun kk => e_ic ((-1)) dX0_turn_22 (by decide) kk) ?_
          refine r_go (fun kk => e_icmp_ne 38 dX0_turn_23 (by decide) (fun _ => kk) (fun h => absurd h (by decide))) ?_
          refine r_go (fun kk => e_iload_n 1 dX0_turn_38 rfl kk) ?_
          refine r_go (fun kk => e_if_lt 48 dX0_turn_39 (by decide) (fun h => absurd h (by decide)) (fun _ => kk)) ?_
          refine r_go (fun kk => e_aload_n 2 dX0_turn_42 rfl kk) ?_
          refine r_go (fun kk => e_aload_n 3 dX0_turn_43 rfl kk) ?_
          refine r_go (fun kk => e_iload_n 1 dX0_turn_44 rfl kk) ?_
          obtain rfl : n2 = nW := (nI_eq (by omega) (by have := hW2.1.2; omega)).mp (hI2.n1.symm.trans hW2.1.1)
          obtain ⟨_, m1, ⟨rfl, hz1⟩, E1x45⟩ := k_end (G := G) hI2 hρ (t := t) (by omega) hW2 hg2 hB hc h7A h8A (nI 0)
          refine r_go (fun kk => e_callV (ci := 0) (st := []) (st1 := []) (As := [.ref (Y2.1 (9 + t)), .int (nI 0)]) (E1x45) dX0_turn_45 (by decide) cm_X0_end lk_X0_197 im_X0_end rfl sel_X0_end (hI2.T 0 (by decide)) rfl rfl (Nat.le_of_ble_eq_true rfl) rfl kk) ?_
          exact r_ret ⟨rfl, Y2, n2, by omega, hS.tr hS2, by rw [← hT, tn_e f h4 (by rw [hA]; decide) hA]; dsimp only; exact hz1⟩ (e_retV dX0_turn_48 rfl rfl)
  have hs0 : 0 < kg kf t 2 := by
    obtain ⟨s, h1, h2, e⟩ := (hW.2.2.2.2.1 t ht).2.1
    rw [e]
    exact nI_lt (a := 0) (by omega) (by omega)
  have hd0 : isDue kf t = false → kg kf t 13 = 0 := fun q => by
    obtain ⟨-, -, -, -, ⟨h5, -⟩, -⟩ := hG.at hW ht
    exact (h5 (fun z => by rw [due_iff.mpr z] at q; cases q)).2
  obtain ⟨-, -, ⟨a0, ha0, ea0⟩, -⟩ := hW.2.2.2.2.1 t ht
  refine r_go (fun kk => e_lvs (lv' := [(0, .ref (Y.1 0)), (1, .ref (Y.1 (9 + t)))]) rfl kk) ?_
  refine r_go (fun kk => e_aload_n 1 dX0_turn_0 rfl kk) ?_
  refine r_go (fun kk => e_ifnonnull 5 dX0_turn_1 (by decide) kk) ?_
  refine r_go (fun kk => e_aload_n 0 dX0_turn_5 rfl kk) ?_
  refine r_go (fun kk => e_aload_n 1 dX0_turn_6 rfl kk) ?_
  obtain ⟨_, m1, ⟨rfl, hq1⟩, E1x7⟩ := k_pay (G := G) hq hρ ht hs0 hd0
  refine r_go (fun kk => e_callV (ci := 0) (st := []) (st1 := []) (As := [.ref (Y.1 (9 + t))]) (E1x7) dX0_turn_7 (by decide) cm_X0_pay lk_X0_190 im_X0_pay rfl sel_X0_pay (hq.T 0 (by decide)) rfl rfl (Nat.le_of_ble_eq_true rfl) rfl kk) ?_
  refine r_go (fun kk => e_ic ((-1)) dX0_turn_10 (by decide) kk) ?_
  refine r_go (fun kk => e_istore_n (lv' := [(2, .int (-1)), (0, .ref (Y.1 0)), (1, .ref (Y.1 (9 + t)))]) dX0_turn_11 (by decide) rfl kk) ?_
  refine r_go (fun kk => e_ic (nI 0) dX0_turn_12 (by decide) kk) ?_
  refine r_go (fun kk => e_istore_n (lv' := [(3, .int (nI 0)), (2, .int (-1)), (0, .ref (Y.1 0)), (1, .ref (Y.1 (9 + t)))]) dX0_turn_13 (by decide) rfl kk) ?_
  refine r_go (fun kk => e_sub [0, 1, 2, 3] rfl kk) ?_
  exact L 502 0 a0 _ Y _ _ n (by omega) ⟨hq1, Nat.le_refl n, Sm.rf Y, wf_pays hW ht, wg_pays hW hG ht, by rw [pays_oth _ _ _ (by decide) (by omega)]; exact h6, by rw [pays_oth _ _ _ (by decide) (by omega)]; exact ea0, ha0, by omega, rfl⟩

set_option maxRecDepth 100000 in
set_option maxHeartbeats 4000000 in
theorem k_turnN (hq : KQ Z m Y ρ kf vf n) : EvC G 4 uX0_turn [.ref (Y.1 0), .null] m (fun r mm => r = none ∧ KQ Z mm Y ρ kf vf n) := by
  refine EvC.of (by decide +kernel) (Nat.le_of_ble_eq_true rfl) ?_
  refine r_go (fun kk => e_lvs (lv' := [(0, .ref (Y.1 0)), (1, .null)]) rfl kk) ?_
  refine r_go (fun kk => e_aload_nN 1 dX0_turn_0 rfl kk) ?_
  refine r_go (fun kk => e_ifnonnullN dX0_turn_1 kk) ?_
  exact r_ret (⟨rfl, hq⟩) (e_retV dX0_turn_4 rfl rfl)

end Class14
