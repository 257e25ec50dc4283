/-! the class: rows -/
section Class6
variable {G : GG} {Z : Mem × YY} {m : Mem} {Y : YY} {ρ n : Nat} {kf : KF} {vf : VF}

set_option maxRecDepth 100000 in
set_option maxHeartbeats 4000000 in
theorem k_haveRoom (hq : KQ Z m Y ρ kf vf n) {c : Nat} (h3 : kf 3 = nI c) (hc : c ≤ 8000) : Ev G 0 uX3_haveRoom [.ref (Y.1 3)] m (some (.int (bI (decide (c + 4 ≤ 8000))))) m := by
  refine Ev.of (by decide +kernel) (Nat.le_of_ble_eq_true rfl) ?_
  refine e_lvs (lv' := [(0, .ref (Y.1 3))]) rfl ?_
  refine e_sipush (v := nI 8000) dX3_haveRoom_0 (by decide) ?_
  refine e_aload_n 0 dX3_haveRoom_3 rfl ?_
  refine e_getIv (kf 3) dX3_haveRoom_4 fl_X3_9 rfl (hq.T 3 (by decide)) hq.2.1.1.2.2.2.1 (e_iv (w := nI c) (h3) ?_)
  refine e_isubN dX3_haveRoom_7 (by omega) ?_
  refine e_ic (nI 4) dX3_haveRoom_8 (by decide) ?_
  refine e_icmp_ltN 16 dX3_haveRoom_9 (by decide) (by omega) (by omega) (fun h1 => ?_) (fun h1 => ?_)
  · skip
    have h1' := Nat.not_le.mpr h1
    refine e_ic (nI 0) dX3_haveRoom_16 (by decide) ?_
    exact e_retI dX3_haveRoom_17 rfl rfl (bI_f (decide_eq_false (by omega))) rfl
  · skip
    have h1' := Nat.not_lt.mpr h1
    refine e_ic (nI 1) dX3_haveRoom_12 (by decide) ?_
    refine e_goto 17 dX3_haveRoom_13 (by decide) ?_
    exact e_retI dX3_haveRoom_17 rfl rfl (bI_t (decide_eq_true (by omega))) rfl

theorem nI_le4 {w : Int32} (h : ¬ (5 : Int32) ≤ w) : w ≤ nI 4 := by
  have h' := Int32.not_le.mp h
  rw [Int32.lt_iff_toInt_lt] at h'
  rw [Int32.le_iff_toInt_le]
  have e5 : (5 : Int32).toInt = 5 := rfl
  have e4 : (nI 4).toInt = 4 := rfl
  omega

set_option maxRecDepth 100000 in
set_option maxHeartbeats 4000000 in
theorem k_has (hq : KQ Z m Y ρ kf vf n) {c : Nat} (h3 : kf 3 = nI c) (hc : c ≤ 8000) (x w : Int32) : Ev G 0 uX3_has [.ref (Y.1 3), .int x, .int w] m (some (.int (bI (rowB kf x w)))) m := by
  refine Ev.of (by decide +kernel) (Nat.le_of_ble_eq_true rfl) ?_
  refine e_lvs (lv' := [(0, .ref (Y.1 3)), (1, .int x), (2, .int w)]) rfl ?_
  refine e_iload_n 1 dX3_has_0 rfl ?_
  refine e_if_lt 25 dX3_has_1 (by decide) (fun q1 => ?_) (fun q1 => ?_)
  · skip
    have q1' := Int32.not_le.mpr q1
    refine e_ic (nI 0) dX3_has_25 (by decide) ?_
    exact e_retI dX3_has_26 rfl rfl (bI_f (Bool.eq_false_iff.mpr (fun q => by obtain ⟨i, j, hi, hj, e1, e2⟩ := row_n h3 hc q; rw [e1] at q1; exact absurd q1 (nI_pos (by omega))))) rfl
  · skip
    have q1' := Int32.not_lt.mp q1
    obtain ⟨j, hj, rfl⟩ := nI_of q1
    refine e_iload_n 1 dX3_has_4 rfl ?_
    refine e_aload_n 0 dX3_has_5 rfl ?_
    refine e_getIv (kf 3) dX3_has_6 fl_X3_9 rfl (hq.T 3 (by decide)) hq.2.1.1.2.2.2.1 (e_iv (w := nI c) (h3) ?_)
    refine e_icmp_geN 25 dX3_has_9 (by decide) (by omega) (by omega) (fun q2 => ?_) (fun q2 => ?_)
    · skip
      have q2' := Nat.not_lt.mpr q2
      refine e_ic (nI 0) dX3_has_25 (by decide) ?_
      exact e_retI dX3_has_26 rfl rfl (bI_f (Bool.eq_false_iff.mpr (fun q => by obtain ⟨i, j, hi, hj, e1, e2⟩ := row_n h3 hc q; have := (nI_eq (by omega) (by omega)).mp e1; omega))) rfl
    · skip
      have q2' := Nat.not_le.mpr q2
      refine e_iload_n 2 dX3_has_12 rfl ?_
      refine e_if_lt 25 dX3_has_13 (by decide) (fun q3 => ?_) (fun q3 => ?_)
      · skip
        have q3' := Int32.not_le.mpr q3
        refine e_ic (nI 0) dX3_has_25 (by decide) ?_
        exact e_retI dX3_has_26 rfl rfl (bI_f (Bool.eq_false_iff.mpr (fun q => by obtain ⟨i, j, hi, hj, e1, e2⟩ := row_n h3 hc q; rw [e2] at q3; exact absurd q3 (nI_pos (by omega))))) rfl
      · skip
        have q3' := Int32.not_lt.mp q3
        refine e_iload_n 2 dX3_has_16 rfl ?_
        refine e_ic (nI 5) dX3_has_17 (by decide) ?_
        refine e_iv (w := 5) rfl ?_
        refine e_icmp_ge 25 dX3_has_18 (by decide) (fun q4 => ?_) (fun q4 => ?_)
        · skip
          have q4' := Int32.not_lt.mpr q4
          refine e_ic (nI 0) dX3_has_25 (by decide) ?_
          exact e_retI dX3_has_26 rfl rfl (bI_f (Bool.eq_false_iff.mpr (fun q => by obtain ⟨i, j, hi, hj, e1, e2⟩ := row_n h3 hc q; rw [e2] at q4; exact absurd ((nI_leI (a := 5) (by decide) (by omega)).mp q4) (by omega)))) rfl
        · skip
          have q4' := Int32.not_le.mp q4
          refine e_ic (nI 1) dX3_has_21 (by decide) ?_
          refine e_goto 26 dX3_has_22 (by decide) ?_
          exact e_retI dX3_has_26 rfl rfl (bI_t (by rw [rowB, h3, pk_sub (by omega), inI_of (by omega) (by omega) (by omega), Bool.true_and]; exact decide_eq_true ⟨Int32.not_lt.mp q3, (nI_le4 q4)⟩)) rfl

def rwR (kf : KF) (ρ : Nat) (k w : Int32) : Int32 := if rowB kf k w then kf (ρ + 5 * k.toNatClampNeg + w.toNatClampNeg) else -1
def fwK (kf : KF) (ρ : Nat) (k w b : Int32) : KF := if rowB kf k w then upd kf (ρ + 5 * k.toNatClampNeg + w.toNatClampNeg) (kf (ρ + 5 * k.toNatClampNeg + w.toNatClampNeg) + b) else kf

set_option maxRecDepth 100000 in
set_option maxHeartbeats 4000000 in
theorem k_get (hq : KQ Z m Y ρ kf vf n) {c : Nat} (h3 : kf 3 = nI c) (hc : c ≤ 8000) (x w : Int32) : Ev G 1 uX3_get [.ref (Y.1 3), .int x, .int w] m (some (.int (rwR kf ρ x w))) m := by
  refine Ev.of (by decide +kernel) (Nat.le_of_ble_eq_true rfl) ?_
  refine e_lvs (lv' := [(0, .ref (Y.1 3)), (1, .int x), (2, .int w)]) rfl ?_
  refine e_aload_n 0 dX3_get_0 rfl ?_
  refine e_iload_n 1 dX3_get_1 rfl ?_
  refine e_iload_n 2 dX3_get_2 rfl ?_
  refine e_callV (ci := 3) (st := []) (st1 := [.int (bI (rowB kf x w))]) (As := [.int x, .int w]) (k_has hq h3 hc x w) dX3_get_3 (by decide) cm_X3_has lk_X3_25 im_X3_has rfl sel_X3_has (hq.T 3 (by decide)) rfl rfl (Nat.le_of_ble_eq_true rfl) rfl ?_
  refine e_if_eqB 22 dX3_get_6 (by decide) (fun b1 => ?_) (fun b1 => ?_)
  · skip
    refine e_ic ((-1)) dX3_get_22 (by decide) ?_
    exact e_retI dX3_get_23 rfl rfl (by rw [rwR, b1, if_neg (by decide)]) rfl
  · skip
    obtain ⟨i, j, hi, hj, e1, e2⟩ := row_n h3 hc b1
    subst e1
    subst e2
    have hce := hq.2.1.2.2.2.2.1
    rw [h3, nI_clamp (by omega)] at hce
    have hlc := hq.1.2.2.2.2.2
    unfold LC at hlc
    refine e_aload_n 0 dX3_get_9 rfl ?_
    refine e_getP (some (Y.1 4)) dX3_get_10 fl_X3_15 rfl (hq.T 3 (by decide)) (hq.1.2.2.1.2.2.2.2.2.2.2) ?_
    refine e_iload_n 1 dX3_get_13 rfl ?_
    refine e_ic (nI 5) dX3_get_14 (by decide) ?_
    refine e_imulN dX3_get_15 ?_
    refine e_iload_n 2 dX3_get_16 rfl ?_
    refine e_iaddN dX3_get_17 ?_
    refine e_ialdN (kf (ρ + ((i * 5) + j))) dX3_get_18 (hq.T 4 (by decide)) (by omega) (by omega) (hce.2 _ (by omega)) ?_
    refine e_goto 23 dX3_get_19 (by decide) ?_
    exact e_retI dX3_get_23 rfl rfl (by rw [rwR, if_pos (show _ = true from b1), nI_clamp (by omega), nI_clamp (by omega), show ρ + 5 * i + j = ρ + (i * 5 + j) by omega]) rfl

set_option maxRecDepth 100000 in
set_option maxHeartbeats 4000000 in
theorem k_grow (hq : KQ Z m Y ρ kf vf n) (hρ : 62000 ≤ ρ) {c : Nat} (h3 : kf 3 = nI c) (hc : c ≤ 8000) (x w y : Int32) : EvC G 1 uX3_grow [.ref (Y.1 3), .int x, .int w, .int y] m (fun r mm => r = none ∧ KQ Z mm Y ρ (fwK kf ρ x w y) vf n) := by
  refine EvC.of (by decide +kernel) (Nat.le_of_ble_eq_true rfl) ?_
  refine r_go (fun kk => e_lvs (lv' := [(0, .ref (Y.1 3)), (1, .int x), (2, .int w), (3, .int y)]) rfl kk) ?_
  refine r_go (fun kk => e_aload_n 0 dX3_grow_0 rfl kk) ?_
  refine r_go (fun kk => e_iload_n 1 dX3_grow_1 rfl kk) ?_
  refine r_go (fun kk => e_iload_n 2 dX3_grow_2 rfl kk) ?_
  refine r_go (fun kk => e_callV (ci := 3) (st := []) (st1 := [.int (bI (rowB kf x w))]) (As := [.int x, .int w]) (k_has hq h3 hc x w) dX3_grow_3 (by decide) cm_X3_has lk_X3_25 im_X3_has rfl sel_X3_has (hq.T 3 (by decide)) rfl rfl (Nat.le_of_ble_eq_true rfl) rfl kk) ?_
  refine r_bb (fun ka kb => e_if_eqB 23 dX3_grow_6 (by decide) ka kb) (fun b1 => ?_) (fun b1 => ?_)
  · skip
    exact r_ret (⟨rfl, by rw [fwK, b1, if_neg (by decide)]; exact hq⟩) (e_retV dX3_grow_23 rfl rfl)
  · skip
    obtain ⟨i, j, hi, hj, e1, e2⟩ := row_n h3 hc b1
    subst e1
    subst e2
    have hce := hq.2.1.2.2.2.2.1
    rw [h3, nI_clamp (by omega)] at hce
    have hlc := hq.1.2.2.2.2.2
    unfold LC at hlc
    refine r_go (fun kk => e_aload_n 0 dX3_grow_9 rfl kk) ?_
    refine r_go (fun kk => e_getP (some (Y.1 4)) dX3_grow_10 fl_X3_15 rfl (hq.T 3 (by decide)) (hq.1.2.2.1.2.2.2.2.2.2.2) kk) ?_
    refine r_go (fun kk => e_iload_n 1 dX3_grow_13 rfl kk) ?_
    refine r_go (fun kk => e_ic (nI 5) dX3_grow_14 (by decide) kk) ?_
    refine r_go (fun kk => e_imulN dX3_grow_15 kk) ?_
    refine r_go (fun kk => e_iload_n 2 dX3_grow_16 rfl kk) ?_
    refine r_go (fun kk => e_iaddN dX3_grow_17 kk) ?_
    refine r_go (fun kk => e_dup2 dX3_grow_18 rfl rfl kk) ?_
    refine r_go (fun kk => e_ialdN (kf (ρ + ((i * 5) + j))) dX3_grow_19 (hq.T 4 (by decide)) (by omega) (by omega) (hce.2 _ (by omega)) kk) ?_
    refine r_go (fun kk => e_iload_n 3 dX3_grow_20 rfl kk) ?_
    refine r_go (fun kk => e_iadd dX3_grow_21 kk) ?_
    refine r_go (fun kk => e_iastN _ dX3_grow_22 (hq.T 4 (by decide)) (by omega) (by omega) rfl kk) ?_
    refine r_gen (fun mm => KQ Z mm Y ρ (upd kf (ρ + ((i * 5) + j)) ((kf (ρ + ((i * 5) + j))) + y)) vf n) (hq.rw hρ (i := (i * 5) + j) (by rw [h3, nI_clamp (by omega)]; omega)) (fun m1 hq1 => ?_)
    exact r_ret (⟨rfl, by rw [fwK, if_pos (show _ = true from b1), nI_clamp (by omega), nI_clamp (by omega), show ρ + 5 * i + j = ρ + (i * 5 + j) by omega]; exact hq1⟩) (e_retV dX3_grow_23 rfl rfl)

set_option maxRecDepth 100000 in
set_option maxHeartbeats 4000000 in
theorem k_add (hq : KQ Z m Y ρ kf vf n) (hρ : 62000 ≤ ρ) {c : Nat} (h3 : kf 3 = nI c) (hc : c < 8000) {k' : KF} (x0 x1 x2 x3 x4 : Int32) (hk : ∀ j, j < 62000 → j ≠ 3 → k' j = kf j) (h3' : k' 3 = nI (c + 1)) (hk5 : ∀ i, i < 5 * c → k' (ρ + i) = kf (ρ + i)) (g0 : k' (ρ + 5 * c + 0) = x0) (g1 : k' (ρ + 5 * c + 1) = x1) (g2 : k' (ρ + 5 * c + 2) = x2) (g3 : k' (ρ + 5 * c + 3) = x3) (g4 : k' (ρ + 5 * c + 4) = x4) : EvC G 2 uX3_add [.ref (Y.1 3), .int x0, .int x1, .int x2, .int x3, .int x4] m (fun r mm => r = none ∧ ∃ Y2, Sm Y Y2 ∧ KQ Z mm Y2 ρ k' vf n ∧ ∀ t, t < 200 → gL mm 98 (Y2.1 (9 + t)) = gL m 98 (Y.1 (9 + t))) := by
  refine EvC.of (by decide +kernel) (Nat.le_of_ble_eq_true rfl) ?_
  have C : ∀ (m1 : Mem) (Y1 : YY), Sm Y Y1 → KQ Z m1 Y1 ρ kf vf n → 5 * (c + 1) ≤ gN m1 (Y1.1 4) → (∀ t, t < 200 → gL m1 98 (Y1.1 (9 + t)) = gL m 98 (Y.1 (9 + t))) → EvR G 2 uX3_add (zz m) (nn m) (fun r mm => r = none ∧ ∃ Y2, Sm Y Y2 ∧ KQ Z mm Y2 ρ k' vf n ∧ ∀ t, t < 200 → gL mm 98 (Y2.1 (9 + t)) = gL m 98 (Y.1 (9 + t))) 54 [(0, .ref (Y1.1 3)), (1, .int x0), (2, .int x1), (3, .int x2), (4, .int x3), (5, .int x4), (6, .int (nI (c * 5)))] [] m1 := by
    intro m1 Y1 hS hq1 hN1 yS
    have yN : gN m1 (Y1.1 4) = gN m1 (Y1.1 4) := rfl
    have hlc := hq1.1.2.2.2.2.2
    unfold LC at hlc
    refine r_go (fun kk => e_aload_n 0 dX3_add_54 rfl kk) ?_
    refine r_go (fun kk => e_getP (some (Y1.1 4)) dX3_add_55 fl_X3_15 rfl (hq1.T 3 (by decide)) (hq1.1.2.2.1.2.2.2.2.2.2.2) kk) ?_
    refine r_go (fun kk => e_iload 6 dX3_add_58 rfl kk) ?_
    refine r_go (fun kk => e_iload_n 1 dX3_add_60 rfl kk) ?_
    refine r_go (fun kk => e_iastN _ dX3_add_61 (hq1.T 4 (by decide)) (by rw [yN]; omega) (by rw [yN]; omega) rfl kk) ?_
    refine r_gen (fun mm => KQ Z mm Y1 ρ kf vf n ∧ gN mm (Y1.1 4) = gN m1 (Y1.1 4) ∧ (∀ t, t < 200 → gL mm 98 (Y1.1 (9 + t)) = gL m 98 (Y.1 (9 + t))) ∧ aI mm (Y1.1 4) (5 * c + 0) = x0) ⟨hq1.rx hρ (by rw [h3, nI_clamp (by omega)]; omega), yN, yS, by rw [show (c * 5) = 5 * c + 0 by omega]; exact u2_eq _ _ _ _⟩ (fun z1 hy => ?_)
    obtain ⟨hz1, yN, yS, y0⟩ := hy
    refine r_go (fun kk => e_aload_n 0 dX3_add_62 rfl kk) ?_
    refine r_go (fun kk => e_getP (some (Y1.1 4)) dX3_add_63 fl_X3_15 rfl (hz1.T 3 (by decide)) (hz1.1.2.2.1.2.2.2.2.2.2.2) kk) ?_
    refine r_go (fun kk => e_iload 6 dX3_add_66 rfl kk) ?_
    refine r_go (fun kk => e_ic (nI 1) dX3_add_68 (by decide) kk) ?_
    refine r_go (fun kk => e_iaddN dX3_add_69 kk) ?_
    refine r_go (fun kk => e_iload_n 2 dX3_add_70 rfl kk) ?_
    refine r_go (fun kk => e_iastN _ dX3_add_71 (hz1.T 4 (by decide)) (by rw [yN]; omega) (by rw [yN]; omega) rfl kk) ?_
    refine r_gen (fun mm => KQ Z mm Y1 ρ kf vf n ∧ gN mm (Y1.1 4) = gN m1 (Y1.1 4) ∧ (∀ t, t < 200 → gL mm 98 (Y1.1 (9 + t)) = gL m 98 (Y.1 (9 + t))) ∧ aI mm (Y1.1 4) (5 * c + 0) = x0 ∧ aI mm (Y1.1 4) (5 * c + 1) = x1) ⟨hz1.rx hρ (by rw [h3, nI_clamp (by omega)]; omega), yN, yS, (u2_na _ _ (by omega)).trans y0, by rw [show ((c * 5) + 1) = 5 * c + 1 by omega]; exact u2_eq _ _ _ _⟩ (fun z2 hy => ?_)
    obtain ⟨hz2, yN, yS, y0, y1⟩ := hy
    refine r_go (fun kk => e_aload_n 0 dX3_add_72 rfl kk) ?_
    refine r_go (fun kk => e_getP (some (Y1.1 4)) dX3_add_73 fl_X3_15 rfl (hz2.T 3 (by decide)) (hz2.1.2.2.1.2.2.2.2.2.2.2) kk) ?_
    refine r_go (fun kk => e_iload 6 dX3_add_76 rfl kk) ?_
    refine r_go (fun kk => e_ic (nI 2) dX3_add_78 (by decide) kk) ?_
    refine r_go (fun kk => e_iaddN dX3_add_79 kk) ?_
    refine r_go (fun kk => e_iload_n 3 dX3_add_80 rfl kk) ?_
    refine r_go (fun kk => e_iastN _ dX3_add_81 (hz2.T 4 (by decide)) (by rw [yN]; omega) (by rw [yN]; omega) rfl kk) ?_
    refine r_gen (fun mm => KQ Z mm Y1 ρ kf vf n ∧ gN mm (Y1.1 4) = gN m1 (Y1.1 4) ∧ (∀ t, t < 200 → gL mm 98 (Y1.1 (9 + t)) = gL m 98 (Y.1 (9 + t))) ∧ aI mm (Y1.1 4) (5 * c + 0) = x0 ∧ aI mm (Y1.1 4) (5 * c + 1) = x1 ∧ aI mm (Y1.1 4) (5 * c + 2) = x2) ⟨hz2.rx hρ (by rw [h3, nI_clamp (by omega)]; omega), yN, yS, (u2_na _ _ (by omega)).trans y0, (u2_na _ _ (by omega)).trans y1, by rw [show ((c * 5) + 2) = 5 * c + 2 by omega]; exact u2_eq _ _ _ _⟩ (fun z3 hy => ?_)
    obtain ⟨hz3, yN, yS, y0, y1, y2⟩ := hy
    refine r_go (fun kk => e_aload_n 0 dX3_add_82 rfl kk) ?_
    refine r_go (fun kk => e_getP (some (Y1.1 4)) dX3_add_83 fl_X3_15 rfl (hz3.T 3 (by decide)) (hz3.1.2.2.1.2.2.2.2.2.2.2) kk) ?_
    refine r_go (fun kk => e_iload 6 dX3_add_86 rfl kk) ?_
    refine r_go (fun kk => e_ic (nI 3) dX3_add_88 (by decide) kk) ?_
    refine r_go (fun kk => e_iaddN dX3_add_89 kk) ?_
    refine r_go (fun kk => e_iload 4 dX3_add_90 rfl kk) ?_
    refine r_go (fun kk => e_iastN _ dX3_add_92 (hz3.T 4 (by decide)) (by rw [yN]; omega) (by rw [yN]; omega) rfl kk) ?_
    refine r_gen (fun mm => KQ Z mm Y1 ρ kf vf n ∧ gN mm (Y1.1 4) = gN m1 (Y1.1 4) ∧ (∀ t, t < 200 → gL mm 98 (Y1.1 (9 + t)) = gL m 98 (Y.1 (9 + t))) ∧ aI mm (Y1.1 4) (5 * c + 0) = x0 ∧ aI mm (Y1.1 4) (5 * c + 1) = x1 ∧ aI mm (Y1.1 4) (5 * c + 2) = x2 ∧ aI mm (Y1.1 4) (5 * c + 3) = x3) ⟨hz3.rx hρ (by rw [h3, nI_clamp (by omega)]; omega), yN, yS, (u2_na _ _ (by omega)).trans y0, (u2_na _ _ (by omega)).trans y1, (u2_na _ _ (by omega)).trans y2, by rw [show ((c * 5) + 3) = 5 * c + 3 by omega]; exact u2_eq _ _ _ _⟩ (fun z4 hy => ?_)
    obtain ⟨hz4, yN, yS, y0, y1, y2, y3⟩ := hy
    refine r_go (fun kk => e_aload_n 0 dX3_add_93 rfl kk) ?_
    refine r_go (fun kk => e_getP (some (Y1.1 4)) dX3_add_94 fl_X3_15 rfl (hz4.T 3 (by decide)) (hz4.1.2.2.1.2.2.2.2.2.2.2) kk) ?_
    refine r_go (fun kk => e_iload 6 dX3_add_97 rfl kk) ?_
    refine r_go (fun kk => e_ic (nI 4) dX3_add_99 (by decide) kk) ?_
    refine r_go (fun kk => e_iaddN dX3_add_100 kk) ?_
    refine r_go (fun kk => e_iload 5 dX3_add_101 rfl kk) ?_
    refine r_go (fun kk => e_iastN _ dX3_add_103 (hz4.T 4 (by decide)) (by rw [yN]; omega) (by rw [yN]; omega) rfl kk) ?_
    refine r_gen (fun mm => KQ Z mm Y1 ρ kf vf n ∧ gN mm (Y1.1 4) = gN m1 (Y1.1 4) ∧ (∀ t, t < 200 → gL mm 98 (Y1.1 (9 + t)) = gL m 98 (Y.1 (9 + t))) ∧ aI mm (Y1.1 4) (5 * c + 0) = x0 ∧ aI mm (Y1.1 4) (5 * c + 1) = x1 ∧ aI mm (Y1.1 4) (5 * c + 2) = x2 ∧ aI mm (Y1.1 4) (5 * c + 3) = x3 ∧ aI mm (Y1.1 4) (5 * c + 4) = x4) ⟨hz4.rx hρ (by rw [h3, nI_clamp (by omega)]; omega), yN, yS, (u2_na _ _ (by omega)).trans y0, (u2_na _ _ (by omega)).trans y1, (u2_na _ _ (by omega)).trans y2, (u2_na _ _ (by omega)).trans y3, by rw [show ((c * 5) + 4) = 5 * c + 4 by omega]; exact u2_eq _ _ _ _⟩ (fun z5 hy => ?_)
    obtain ⟨hz5, yN, yS, y0, y1, y2, y3, y4⟩ := hy
    refine r_go (fun kk => e_aload_n 0 dX3_add_104 rfl kk) ?_
    refine r_go (fun kk => e_dup dX3_add_105 rfl kk) ?_
    refine r_go (fun kk => e_getIv (kf 3) dX3_add_106 fl_X3_9 rfl (hz5.T 3 (by decide)) hz5.2.1.1.2.2.2.1 (e_iv (w := nI c) (h3) kk)) ?_
    refine r_go (fun kk => e_ic (nI 1) dX3_add_109 (by decide) kk) ?_
    refine r_go (fun kk => e_iaddN dX3_add_110 kk) ?_
    skip
    refine r_go (fun kk => e_putI (ci := 3) (k := 0) dX3_add_111 fl_X3_9 rfl (fun q h => by cases h; rfl) ⟨rfl, rfl⟩ (hz5.T 3 (by decide)) kk) ?_
    refine r_gen (fun mm => KQ Z mm Y1 ρ k' vf n ∧ ∀ t, t < 200 → gL mm 98 (Y1.1 (9 + t)) = gL m 98 (Y.1 (9 + t))) ⟨hz5.row hρ h3 (by omega) (by rw [yN]; omega) hk h3' (fun i hi => ?_), yS⟩ (fun m9 hq9 => ?_)
    · by_cases e : i < 5 * c
      · rw [hk5 i e]
        exact hz5.2.1.2.2.2.2.1.2 i (by rw [h3, nI_clamp (by omega)]; exact e)
      · rcases (show i = 5 * c + 0 ∨ i = 5 * c + 1 ∨ i = 5 * c + 2 ∨ i = 5 * c + 3 ∨ i = 5 * c + 4 by omega) with rfl | rfl | rfl | rfl | rfl
        · rw [y0, ← show ρ + 5 * c + 0 = ρ + (5 * c + 0) by omega]; exact g0.symm
        · rw [y1, ← show ρ + 5 * c + 1 = ρ + (5 * c + 1) by omega]; exact g1.symm
        · rw [y2, ← show ρ + 5 * c + 2 = ρ + (5 * c + 2) by omega]; exact g2.symm
        · rw [y3, ← show ρ + 5 * c + 3 = ρ + (5 * c + 3) by omega]; exact g3.symm
        · rw [y4, ← show ρ + 5 * c + 4 = ρ + (5 * c + 4) by omega]; exact g4.symm
    exact r_ret ⟨rfl, Y1, hS, hq9⟩ (e_retV dX3_add_114 rfl rfl)
  refine r_go (fun kk => e_lvs (lv' := [(0, .ref (Y.1 3)), (1, .int x0), (2, .int x1), (3, .int x2), (4, .int x3), (5, .int x4)]) rfl kk) ?_
  refine r_go (fun kk => e_aload_n 0 dX3_add_0 rfl kk) ?_
  refine r_go (fun kk => e_getIv (kf 3) dX3_add_1 fl_X3_9 rfl (hq.T 3 (by decide)) hq.2.1.1.2.2.2.1 (e_iv (w := nI c) (h3) kk)) ?_
  refine r_go (fun kk => e_sipush (v := nI 8000) dX3_add_4 (by decide) kk) ?_
  refine r_go (fun kk => e_icmp_ltN 11 dX3_add_7 (by decide) (by omega) (by omega) (fun _ => kk) (fun h => absurd h (by omega))) ?_
  refine r_go (fun kk => e_aload_n 0 dX3_add_11 rfl kk) ?_
  refine r_go (fun kk => e_getIv (kf 3) dX3_add_12 fl_X3_9 rfl (hq.T 3 (by decide)) hq.2.1.1.2.2.2.1 (e_iv (w := nI c) (h3) kk)) ?_
  refine r_go (fun kk => e_ic (nI 5) dX3_add_15 (by decide) kk) ?_
  refine r_go (fun kk => e_imulN dX3_add_16 kk) ?_
  refine r_go (fun kk => e_istore (lv' := [(6, .int (nI (c * 5))), (0, .ref (Y.1 3)), (1, .int x0), (2, .int x1), (3, .int x2), (4, .int x3), (5, .int x4)]) dX3_add_17 (by decide) rfl kk) ?_
  refine r_go (fun kk => e_iload 0 dX3_add_19 rfl kk) ?_
  refine r_go (fun kk => e_ic (nI 5) dX3_add_21 (by decide) kk) ?_
  refine r_go (fun kk => e_iaddN dX3_add_22 kk) ?_
  refine r_go (fun kk => e_aload_n 1 dX3_add_23 rfl kk) ?_
  refine r_go (fun kk => e_getP (some (Y.1 4)) dX3_add_24 fl_X3_15 rfl (hq.T 3 (by decide)) (hq.1.2.2.1.2.2.2.2.2.2.2) kk) ?_
  refine r_go (fun kk => e_alen (n := nI (gN m (Y.1 4))) dX3_add_27 (hq.T 4 (by decide)) (by decide) rfl kk) ?_
  refine r_bl (fun ka kb => e_icmp_leN 54 dX3_add_28 (by decide) (by omega) (by have := hq.1.2.2.2.2.2; unfold LC at this; omega) ka kb) (fun h28 => ?_) (fun h28 => ?_)
  · skip
    have h28' := Nat.not_lt.mpr h28
    refine r_go (fun kk => e_sub [1, 2, 3, 4, 5, 6, 0] rfl kk) ?_
    exact C m Y (Sm.rf Y) hq (by omega) (fun _ _ => rfl)
  · skip
    have h28' := Nat.not_le.mpr h28
    have hlb0 := hq.1.2.2.2.2.2
    have hpl := hq.2.1.2.2.2.2.1.1
    rw [h3, nI_clamp (by omega)] at hpl
    have hz := (hq.1.1 4 (by omega)).2.2
    obtain ⟨N, hN1, hN2, hlb, hmin, hN8⟩ : ∃ N, gN m (Y.1 4) < N ∧ N ≤ 40000 ∧ LC N (Y.2.2.1 4 + N) ∧ mnI (nI (2 * gN m (Y.1 4))) (nI 40000) = nI N ∧ 5 * (c + 1) ≤ N := by
      unfold LC at hlb0
      rcases hlb0 with ⟨q1, q2⟩ | ⟨q1, q2⟩ | ⟨q1, q2⟩ | ⟨q1, q2⟩ | ⟨q1, q2⟩ | ⟨q1, q2⟩ | ⟨q1, q2⟩ | ⟨q1, q2⟩
      · exact ⟨640, by omega, by omega, by unfold LC; omega, by rw [q1]; rfl, by omega⟩
      · exact ⟨1280, by omega, by omega, by unfold LC; omega, by rw [q1]; rfl, by omega⟩
      · exact ⟨2560, by omega, by omega, by unfold LC; omega, by rw [q1]; rfl, by omega⟩
      · exact ⟨5120, by omega, by omega, by unfold LC; omega, by rw [q1]; rfl, by omega⟩
      · exact ⟨10240, by omega, by omega, by unfold LC; omega, by rw [q1]; rfl, by omega⟩
      · exact ⟨20480, by omega, by omega, by unfold LC; omega, by rw [q1]; rfl, by omega⟩
      · exact ⟨40000, by omega, by omega, by unfold LC; omega, by rw [q1]; rfl, by omega⟩
      · omega
    refine r_go (fun kk => e_aload_n 1 dX3_add_31 rfl kk) ?_
    refine r_go (fun kk => e_aload_n 1 dX3_add_32 rfl kk) ?_
    refine r_go (fun kk => e_getP (some (Y.1 4)) dX3_add_33 fl_X3_15 rfl (hq.T 3 (by decide)) (hq.1.2.2.1.2.2.2.2.2.2.2) kk) ?_
    refine r_go (fun kk => e_ic (nI 2) dX3_add_36 (by decide) kk) ?_
    refine r_go (fun kk => e_aload_n 1 dX3_add_37 rfl kk) ?_
    refine r_go (fun kk => e_getP (some (Y.1 4)) dX3_add_38 fl_X3_15 rfl (hq.T 3 (by decide)) (hq.1.2.2.1.2.2.2.2.2.2.2) kk) ?_
    refine r_go (fun kk => e_alen (n := nI (gN m (Y.1 4))) dX3_add_41 (hq.T 4 (by decide)) (by decide) rfl kk) ?_
    refine r_go (fun kk => e_imulN dX3_add_42 kk) ?_
    refine r_go (fun kk => e_ldc dX3_add_43 cs_X3_29 kk) ?_
    refine r_go (fun kk => e_iv (w := nI 40000) (by decide) kk) ?_
    refine r_go (fun kk => e_jmin dX3_add_45 lkm_X3_30 (Nat.le_of_ble_eq_true rfl) kk) ?_
    refine r_go (fun kk => e_iv (w := nI N) hmin kk) ?_
    refine r_go (fun kk => e_callS (st := [.ref (Y.1 3)]) (st1 := [.ref (zz m), .ref (Y.1 3)]) (As := [.ref (Y.1 4), .int (nI N)]) (a_copyI (G := G) (N := N) (hq.T 4 (by decide)) hz (by omega) (by omega)) dX3_add_48 (by decide) cm_J7_copyOf_59c91 lk_X3_36 sm_J7_copyOf_59c91 rfl rfl (Nat.le_of_ble_eq_true rfl) rfl kk) ?_
    refine r_go (fun kk => e_putP (ci := 3) (k := 1) (some (zz m)) dX3_add_51 fl_X3_15 rfl (fun q h => by cases h; rfl) ⟨rfl, rfl⟩ rfl (show gT (nw m 12 N) (Y.1 3) = 4 from (vu_ne _ _ (Nat.ne_of_lt (hq.1.1 3 (by omega)).2.2)).trans (hq.T 3 (by decide))) kk) ?_
    have hg := hq.grow (r0 := 4) (rw := 3) (fw := 61) (ty := 12) (N := N) (g := va_cpy (aI m (Y.1 4)) (aI (nw m 12 N) (zz m)) 0 0 (gN m (Y.1 4))) (by omega) (Or.inl ⟨rfl, rfl, rfl, rfl, by omega, hlb, fun i hi => by rw [va_cpy, if_pos (by omega), Nat.sub_zero, Nat.zero_add]⟩)
    refine r_gen (fun mm => ∃ Y1, Sm Y Y1 ∧ KQ Z mm Y1 ρ kf vf n ∧ 5 * (c + 1) ≤ gN mm (Y1.1 4) ∧ (∀ t, t < 200 → gL mm 98 (Y1.1 (9 + t)) = gL m 98 (Y.1 (9 + t)))) ⟨_, hg.2, hg.1, by rw [gY_e]; exact Nat.le_trans hN8 (Nat.le_of_eq gw_Nn.symm), fun t ht => by rw [hg.2 (9 + t) (by omega)]; exact gw_L (hq.1.1 (9 + t) (by omega)).2.2 98⟩ (fun m1 hx => ?_)
    obtain ⟨Y1, hS, hq1, hp1, hs1⟩ := hx
    refine r_go (fun kk => e_lvs (lv' := [(6, .int (nI (c * 5))), (0, .ref (Y1.1 3)), (1, .int x0), (2, .int x1), (3, .int x2), (4, .int x3), (5, .int x4)]) (by rw [hS 3 (by omega)]) kk) ?_
    refine r_go (fun kk => e_sub [1, 2, 3, 4, 5, 6, 0] rfl kk) ?_
    exact C m1 Y1 hS hq1 hp1 hs1

end Class6
