/-! the reference: standingOf -/
section Model3
variable {G : GG} {m : Mem} {X : XX} {kf : KF} {vf : VF} {lf : Nat → Int32}
set_option maxRecDepth 100000 in
set_option maxHeartbeats 4000000 in
theorem m_chain (hX : MW m X) {t n v b z0 n0 : Nat} {r : Option Value} {mF : Mem} {W : Int32} (ht : t < 200) (hn : kf 1 = nI n) (hn2 : n ≤ 200) (hC : CH kf n) (K : EvB G 5 uX6_standingOf z0 n0 r mF 83 [(4, .int W), (3, .int (nI v)), (2, .int (nI b)), (0, .ref X.1), (1, .int (nI t))] [] (MM m X (kf, vf, lf))) : ∀ (f c : Nat) (w : Int32), c + f = n + 1 → (w < 0 ∨ ∃ j, j < n ∧ w = nI j) → chn kf t f w = W → EvB G 5 uX6_standingOf z0 n0 r mF 20 [(5, .int (nI c)), (4, .int w), (3, .int (nI v)), (2, .int (nI b)), (0, .ref X.1), (1, .int (nI t))] [] (MM m X (kf, vf, lf)) := by
  intro f
  induction f with
  | zero =>
    intro c w hc hw hW
    subst hW
    refine e_iload 0 dX6_standingOf_20 rfl ?_
    refine e_aload_n 4 dX6_standingOf_22 rfl ?_
    refine e_mk hX dX6_standingOf_23 fl_X6_8 ?_
    refine e_ic (nI 1) dX6_standingOf_26 (by decide) ?_
    refine e_kld hX dX6_standingOf_27 (by omega) (e_iv (w := nI n) (hn) ?_)
    refine e_icmp_gtN 83 dX6_standingOf_28 (by decide) (by omega) (by omega) (fun _ => ?_) (fun h => absurd h (by omega))
    refine e_sub [1, 2, 3, 4, 5] rfl ?_
    exact K
  | succ f ih =>
    intro c w hc hw hW
    refine e_iload 0 dX6_standingOf_20 rfl ?_
    refine e_aload_n 4 dX6_standingOf_22 rfl ?_
    refine e_mk hX dX6_standingOf_23 fl_X6_8 ?_
    refine e_ic (nI 1) dX6_standingOf_26 (by decide) ?_
    refine e_kld hX dX6_standingOf_27 (by omega) (e_iv (w := nI n) (hn) ?_)
    refine e_icmp_gtN 83 dX6_standingOf_28 (by decide) (by omega) (by omega) (fun h => absurd h (by omega)) (fun _ => ?_)
    refine e_iload 1 dX6_standingOf_31 rfl ?_
    refine e_if_lt 83 dX6_standingOf_33 (by decide) (fun h1 => ?_) (fun h1 => ?_)
    · skip
      have h1' := Int32.not_le.mpr h1
      rw [chn, if_pos h1] at hW
      subst hW
      refine e_sub [1, 2, 3, 4, 5] rfl ?_
      exact K
    · skip
      have h1' := Int32.not_lt.mp h1
      obtain ⟨j, hj, rfl⟩ := hw.resolve_left h1
      refine e_iload 1 dX6_standingOf_36 rfl ?_
      refine e_iload_n 5 dX6_standingOf_38 rfl ?_
      refine e_icmp_eqN 83 dX6_standingOf_39 (by decide) (by omega) (by omega) (fun h2 => ?_) (fun h2 => ?_)
      · skip
        subst h2
        rw [chn, if_neg (nI_pos (by omega)), if_pos rfl] at hW
        subst hW
        refine e_sub [1, 2, 3, 4, 5] rfl ?_
        exact K
      · skip
        refine e_aload_n 4 dX6_standingOf_42 rfl ?_
        refine e_iload 1 dX6_standingOf_43 rfl ?_
        refine e_bipush (v := nI 6) dX6_standingOf_45 (by decide) ?_
        refine e_callV (ci := 6) (st := []) (st1 := [.int (kg kf j 6)]) (As := [.int (nI j), .int (nI 6)]) (m_get hX (kg_lt (by omega) (by omega))) dX6_standingOf_47 (by decide) cm_X6_get lk_X6_36 im_X6_get rfl sel_X6_get hX.1 rfl rfl (Nat.le_of_ble_eq_true rfl) rfl ?_
        refine e_ic (nI 1) dX6_standingOf_50 (by decide) ?_
        refine e_iv (w := 1) rfl ?_
        refine e_icmp_ne 74 dX6_standingOf_51 (by decide) (fun h3 => ?_) (fun h3 => ?_)
        · skip
          refine e_ic ((-1)) dX6_standingOf_74 (by decide) ?_
          refine e_istore (lv' := [(4, .int (-1)), (5, .int (nI c)), (3, .int (nI v)), (2, .int (nI b)), (0, .ref X.1), (1, .int (nI t))]) dX6_standingOf_75 (by decide) rfl ?_
          refine e_iinc1N (lv' := [(5, .int (nI (c + 1))), (4, .int (-1)), (3, .int (nI v)), (2, .int (nI b)), (0, .ref X.1), (1, .int (nI t))]) 1 dX6_standingOf_77 rfl (by decide) rfl ?_
          refine e_goto 20 dX6_standingOf_80 (by decide) ?_
          refine e_sub [0, 1, 2, 3, 4, 5] rfl ?_
          exact ih (c + 1) (-1) (by omega) (Or.inl (by decide)) (by rw [← hW, chn_s (by omega) (mt (nI_eq (by omega) (by omega)).mp h2), nxt, if_neg h3])
        · skip
          obtain ⟨l, hl, e7, e8⟩ := hC j hj h3
          refine e_aload_n 4 dX6_standingOf_54 rfl ?_
          refine e_mk hX dX6_standingOf_55 fl_X6_8 ?_
          refine e_sipush (v := nI 240) dX6_standingOf_58 (by decide) ?_
          refine e_aload_n 4 dX6_standingOf_61 rfl ?_
          refine e_iload 1 dX6_standingOf_62 rfl ?_
          refine e_bipush (v := nI 7) dX6_standingOf_64 (by decide) ?_
          refine e_callV (ci := 6) (st := [.int (nI 240), .ref X.2.1]) (st1 := [.int (kg kf j 7), .int (nI 240), .ref X.2.1]) (As := [.int (nI j), .int (nI 7)]) (m_get hX (kg_lt (by omega) (by decide))) dX6_standingOf_66 (by decide) cm_X6_get lk_X6_36 im_X6_get rfl sel_X6_get hX.1 rfl rfl (Nat.le_of_ble_eq_true rfl) rfl ?_
          refine e_iv (w := nI l) e7 ?_
          refine e_iaddN dX6_standingOf_69 ?_
          refine e_kld hX dX6_standingOf_70 (by omega) ?_
          refine e_goto 75 dX6_standingOf_71 (by decide) ?_
          refine e_istore (lv' := [(4, .int (kf (240 + l))), (5, .int (nI c)), (3, .int (nI v)), (2, .int (nI b)), (0, .ref X.1), (1, .int (nI t))]) dX6_standingOf_75 (by decide) rfl ?_
          refine e_iinc1N (lv' := [(5, .int (nI (c + 1))), (4, .int (kf (240 + l))), (3, .int (nI v)), (2, .int (nI b)), (0, .ref X.1), (1, .int (nI t))]) 1 dX6_standingOf_77 rfl (by decide) rfl ?_
          refine e_goto 20 dX6_standingOf_80 (by decide) ?_
          refine e_sub [0, 1, 2, 3, 4, 5] rfl ?_
          exact ih (c + 1) _ (by omega) e8 (by rw [← hW, chn_s (by omega) (mt (nI_eq (by omega) (by omega)).mp h2), nxt, if_pos h3, e7, nI_clamp (by omega)])
set_option maxRecDepth 100000 in
set_option maxHeartbeats 4000000 in
theorem m_standingOf (hX : MW m X) {t n : Nat} (ht : t < 200) (hn : kf 1 = nI n) (hn2 : n ≤ 200) (hC : CH kf n) : Ev G 5 uX6_standingOf [.ref X.1, .int (nI t)] (MM m X (kf, vf, lf)) (some (.int (nI (stnd kf vf t)))) (MM m X (kf, vf, lf)) := by
  refine Ev.of (by decide +kernel) (Nat.le_of_ble_eq_true rfl) ?_
  have L : ∀ (k i b : Nat), i + k = n → b = lp (fun u b => if rch kf t u && ahead kf vf u b then u else b) i t → b < 200 → EvB G 5 uX6_standingOf (zz (MM m X (kf, vf, lf))) (nn (MM m X (kf, vf, lf))) (some (.int (nI (stnd kf vf t)))) (MM m X (kf, vf, lf)) 4 [(3, .int (nI i)), (2, .int (nI b)), (0, .ref X.1), (1, .int (nI t))] [] (MM m X (kf, vf, lf)) := by
    intro k
    induction k with
    | zero =>
      intro i b hi hb hb2
      refine e_iload_n 0 dX6_standingOf_4 rfl ?_
      refine e_aload_n 2 dX6_standingOf_5 rfl ?_
      refine e_mk hX dX6_standingOf_6 fl_X6_8 ?_
      refine e_ic (nI 1) dX6_standingOf_9 (by decide) ?_
      refine e_kld hX dX6_standingOf_10 (by omega) (e_iv (w := nI n) (hn) ?_)
      refine e_icmp_geN 106 dX6_standingOf_11 (by decide) (by omega) (by omega) (fun _ => ?_) (fun h => absurd h (by omega))
      refine e_iload_n 1 dX6_standingOf_106 rfl ?_
      exact e_retI dX6_standingOf_107 rfl rfl (by rw [hb, show i = n by omega, stnd, nT_of hn hn2]) rfl
    | succ k ih =>
      intro i b hi hb hb2
      refine e_iload_n 0 dX6_standingOf_4 rfl ?_
      refine e_aload_n 2 dX6_standingOf_5 rfl ?_
      refine e_mk hX dX6_standingOf_6 fl_X6_8 ?_
      refine e_ic (nI 1) dX6_standingOf_9 (by decide) ?_
      refine e_kld hX dX6_standingOf_10 (by omega) (e_iv (w := nI n) (hn) ?_)
      refine e_icmp_geN 106 dX6_standingOf_11 (by decide) (by omega) (by omega) (fun h => absurd h (by omega)) (fun _ => ?_)
      refine e_iload_n 0 dX6_standingOf_14 rfl ?_
      refine e_istore (lv' := [(4, .int (nI i)), (3, .int (nI i)), (2, .int (nI b)), (0, .ref X.1), (1, .int (nI t))]) dX6_standingOf_15 (by decide) rfl ?_
      refine e_ic (nI 0) dX6_standingOf_17 (by decide) ?_
      refine e_istore (lv' := [(5, .int (nI 0)), (4, .int (nI i)), (3, .int (nI i)), (2, .int (nI b)), (0, .ref X.1), (1, .int (nI t))]) dX6_standingOf_18 (by decide) rfl ?_
      refine e_sub [0, 1, 2, 3, 4, 5] rfl ?_
      refine m_chain hX ht hn hn2 hC ?_ (n + 1) 0 (nI i) (by omega) (Or.inr ⟨i, by omega, rfl⟩) rfl
      refine e_iload 0 dX6_standingOf_83 rfl ?_
      refine e_iload_n 4 dX6_standingOf_85 rfl ?_
      refine e_icmp_ne 100 dX6_standingOf_86 (by decide) (fun h11 => ?_) (fun h11 => ?_)
      · skip
        have HH : (rch kf t i && ahead kf vf i b) = false := by rw [show rch kf t i = false from decide_eq_false (by rw [nT_of hn hn2]; exact h11)]; rfl
        refine e_iinc1N (lv' := [(3, .int (nI (i + 1))), (4, .int (chn kf t (n + 1) (nI i))), (2, .int (nI b)), (0, .ref X.1), (1, .int (nI t))]) 1 dX6_standingOf_100 rfl (by decide) rfl ?_
        refine e_goto 4 dX6_standingOf_103 (by decide) ?_
        refine e_sub [0, 2, 3, 4] rfl ?_
        exact ih (i + 1) b (by omega) (by show b = if _ then _ else _; rw [← hb, HH]; rfl) hb2
      · skip
        have hr : rch kf t i = true := decide_eq_true (by rw [nT_of hn hn2]; exact h11)
        refine e_aload_n 3 dX6_standingOf_89 rfl ?_
        refine e_iload_n 1 dX6_standingOf_90 rfl ?_
        refine e_iload_n 2 dX6_standingOf_91 rfl ?_
        refine e_callV (ci := 6) (st := []) (st1 := [.int (bI (ahead kf vf i b))]) (As := [.int (nI i), .int (nI b)]) (m_isAhead hX (by omega) (by omega)) dX6_standingOf_92 (by decide) cm_X6_isAhead lk_X6_55 im_X6_isAhead rfl sel_X6_isAhead hX.1 rfl rfl (Nat.le_of_ble_eq_true rfl) rfl ?_
        refine e_if_eqB 100 dX6_standingOf_95 (by decide) (fun h12 => ?_) (fun h12 => ?_)
        · skip
          have HH : (rch kf t i && ahead kf vf i b) = false := by rw [hr, h12]; rfl
          refine e_iinc1N (lv' := [(3, .int (nI (i + 1))), (4, .int (chn kf t (n + 1) (nI i))), (2, .int (nI b)), (0, .ref X.1), (1, .int (nI t))]) 1 dX6_standingOf_100 rfl (by decide) rfl ?_
          refine e_goto 4 dX6_standingOf_103 (by decide) ?_
          refine e_sub [0, 2, 3, 4] rfl ?_
          exact ih (i + 1) b (by omega) (by show b = if _ then _ else _; rw [← hb, HH]; rfl) hb2
        · skip
          refine e_iload_n 1 dX6_standingOf_98 rfl ?_
          refine e_istore_n (lv' := [(2, .int (nI i)), (4, .int (chn kf t (n + 1) (nI i))), (3, .int (nI i)), (0, .ref X.1), (1, .int (nI t))]) dX6_standingOf_99 (by decide) rfl ?_
          refine e_iinc1N (lv' := [(3, .int (nI (i + 1))), (2, .int (nI i)), (4, .int (chn kf t (n + 1) (nI i))), (0, .ref X.1), (1, .int (nI t))]) 2 dX6_standingOf_100 rfl (by decide) rfl ?_
          refine e_goto 4 dX6_standingOf_103 (by decide) ?_
          refine e_sub [0, 1, 3, 4] rfl ?_
          exact ih (i + 1) i (by omega) (by show i = if _ then _ else _; rw [← hb, show rch kf t i = true from hr, h12]; rfl) (by omega)
  refine e_lvs (lv' := [(0, .ref X.1), (1, .int (nI t))]) rfl ?_
  refine e_iload_n 1 dX6_standingOf_0 rfl ?_
  refine e_istore_n (lv' := [(2, .int (nI t)), (0, .ref X.1), (1, .int (nI t))]) dX6_standingOf_1 (by decide) rfl ?_
  refine e_ic (nI 0) dX6_standingOf_2 (by decide) ?_
  refine e_istore_n (lv' := [(3, .int (nI 0)), (2, .int (nI t)), (0, .ref X.1), (1, .int (nI t))]) dX6_standingOf_3 (by decide) rfl ?_
  refine e_sub [0, 1, 2, 3] rfl ?_
  exact L n 0 t (by omega) rfl ht
end Model3
