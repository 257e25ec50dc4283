/-! the class: how long till one is chosen -/
theorem i_sub_le {P c : Nat} (hP : P < 2 ^ 30) (hc : c < 2 ^ 30) : nI P - nI c ≤ 0 ↔ P ≤ c := by
  rw [Int32.le_iff_toInt_le, Int32.toInt_sub, nI_toInt (by omega), nI_toInt (by omega), Int.bmod_eq_of_le (by omega) (by omega)]
  have e0 : (0 : Int32).toInt = 0 := rfl
  omega
theorem lN_le63 {a b : Nat} (ha : a < 2 ^ 63) (hb : b < 2 ^ 63) : lN a ≤ lN b ↔ a ≤ b := by
  rw [Int64.le_iff_toInt_le, lN_ti ha, lN_ti hb]
  omega
/-- payments, as the class counts them -/
def pbF (kf : KF) (vf : VF) (u : Nat) (aim : Int64) : Int64 := if aim ≤ vf u then lN 0 else ((aim - vf u) * (kg kf u 2).toInt64 - (kg kf u 3).toInt64 + lN 999) / lN 1000
theorem pm_eq {kf : KF} {vf : VF} {u s k x r sh : Nat} (hv : vf u = lN x) (h2 : kg kf u 2 = nI sh) (h3 : kg kf u 3 = nI r) (hr : r < sh) (hs : sh ≤ 1000) (hx : x < 2 ^ 40) (hk : k < 2 ^ 40) : pmF kf vf u (lN k) s = pbF kf vf u (lN k + (if u ≤ s then lN 1 else lN 0)) := by
  obtain ⟨e, he, ee⟩ : ∃ e, e ≤ 1 ∧ (if u ≤ s then lN 1 else lN 0) = lN e := by
    split
    · exact ⟨1, by omega, rfl⟩
    · exact ⟨0, by omega, rfl⟩
  unfold pmF pbF
  try dsimp only
  rw [ee, hv, h2, h3, nI_l (by omega), nI_l (by omega), lN_add]
  have en : lN k - lN x + lN e = lN (k + e) - lN x := by
    rw [← lN_add, Int64.sub_eq_add_neg, Int64.sub_eq_add_neg, Int64.add_assoc, Int64.add_assoc, Int64.add_comm (-lN x)]
  rw [en]
  by_cases h : k + e ≤ x
  · rw [if_pos ((lN_le63 (by omega) (by omega)).mpr h), if_neg]
    rw [Int64.lt_iff_toInt_lt, Int64.toInt_sub, lN_ti (show k + e < 2 ^ 63 by omega), lN_ti (show x < 2 ^ 63 by omega), Int.bmod_eq_of_le (by omega) (by omega), lN_ti (show 0 < 2 ^ 63 by omega)]
    omega
  · have hm : sh ≤ (k + e - x) * sh := Nat.le_mul_of_pos_left _ (by omega)
    have hb : (k + e - x) * sh ≤ (k + e - x) * 1000 := Nat.mul_le_mul_left _ hs
    rw [if_neg (fun q => h ((lN_le63 (by omega) (by omega)).mp q)), lN_sub (by omega), if_pos ((lN_l63 (by omega) (by omega)).mpr (by omega)), lN_mul, lN_sub (by omega), if_pos ((lN_l63 (by omega) (by omega)).mpr (by omega))]
def taV (kf : KF) (vf : VF) (u s : Nat) : Int64 := if cls kf s = 0 then (kg kf u 13).toInt64 else (if kg kf u 0 = 1 then (kg kf u 13).toInt64 + pmF kf vf u (key kf vf s) s else if kg kf u 0 = 2 then mxL (kg kf u 13).toInt64 (pmF kf vf u (key kf vf s) s) else if kg kf u 0 = 4 then (pmF kf vf u (key kf vf s) s + lN 1) / lN 2 else pmF kf vf u (key kf vf s) s)
theorem bdS_ta {kf : KF} {vf : VF} {t s u : Nat} {q : Nat × Int64} (h0 : isDue kf u = false → kg kf u 13 = 0) (h1 : kg kf u 6 = 0) (h2 : ¬ u = t) (h3 : ahead kf vf (stnd kf vf u) s = true) (h4 : stnd kf vf u = u) : bdS kf vf t s u q = (q.1, q.2 + taV kf vf u s) := by
  have el : (if isDue kf u then kg kf u 13 else nI 0) = kg kf u 13 := by
    cases h : isDue kf u with
    | true => rw [if_pos rfl]
    | false => rw [if_neg (by decide), h0 h]; rfl
  unfold bdS taV
  rw [if_pos ⟨h1, h2, h3⟩, if_pos h4]
  try dsimp only
  rw [el]
  split <;> rfl
section Class18
variable {G : GG} {Z : Mem × YY} {m : Mem} {Y : YY} {ρ n : Nat} {kf : KF} {vf : VF}

set_option maxRecDepth 100000 in
set_option maxHeartbeats 4000000 in
theorem k_paymentsBehind (hq : KQ Z m Y ρ kf vf n) {u s : Nat} (hu : u < n) (hs : s < n) (hR : RH kf vf n) : Ev G 1 uX4_paymentsBehind [.ref (Y.1 (9 + u)), .long (rkA kf vf s)] m (some (.long (pbF kf vf u (key kf vf s + (if u ≤ s then lN 1 else lN 0))))) m := by
  refine Ev.of (by decide +kernel) (Nat.le_of_ble_eq_true rfl) ?_
  have hn2 := hq.n2
  refine e_lvs (lv' := [(0, .ref (Y.1 (9 + u))), (1, .long (rkA kf vf s))]) rfl ?_
  refine e_lload_n 1 dX4_paymentsBehind_0 rfl ?_
  refine e_callS (st := []) (st1 := [.long (key kf vf s)]) (As := [.long (rkA kf vf s)]) ((by have z := k_keyOf (G := G) (m := m) (rkA kf vf s); rw [hR.ke hn2 hs] at z; exact z)) dX4_paymentsBehind_1 (by decide) cm_X5_keyOf lk_X4_95 sm_X5_keyOf rfl rfl (Nat.le_of_ble_eq_true rfl) rfl ?_
  refine e_aload_n 0 dX4_paymentsBehind_4 rfl ?_
  refine e_getIv (nI u) dX4_paymentsBehind_5 fl_X4_68 rfl (hq.Tt (by omega)) (hq.gno (by omega)) ?_
  refine e_lload_n 1 dX4_paymentsBehind_8 rfl ?_
  refine e_callS (st := [.int (nI u), .long (key kf vf s)]) (st1 := [.int (nI s), .int (nI u), .long (key kf vf s)]) (As := [.long (rkA kf vf s)]) ((by have z := k_numberOf (G := G) (m := m) (rkA kf vf s); rw [hR.nu hn2 hs] at z; exact z)) dX4_paymentsBehind_9 (by decide) cm_X5_numberOf lk_X4_99 sm_X5_numberOf rfl rfl (Nat.le_of_ble_eq_true rfl) rfl ?_
  refine e_icmp_leN 19 dX4_paymentsBehind_12 (by decide) (by omega) (by omega) (fun q1 => ?_) (fun q1 => ?_)
  · skip
    have q1' := Nat.not_lt.mpr q1
    refine e_ic (nI 1) dX4_paymentsBehind_19 (by decide) ?_
    refine e_i2lN dX4_paymentsBehind_20 (by omega) ?_
    refine e_ladd dX4_paymentsBehind_21 ?_
    refine e_lstore_n (lv' := [(3, .long ((key kf vf s) + (lN 1))), (0, .ref (Y.1 (9 + u))), (1, .long (rkA kf vf s))]) dX4_paymentsBehind_22 (by decide) rfl ?_
    refine e_aload_n 1 dX4_paymentsBehind_23 rfl ?_
    refine e_getLv (vf u) dX4_paymentsBehind_24 fl_X4_21 rfl (hq.Tt (by omega)) (hq.gv (hu)) ?_
    refine e_lload_n 0 dX4_paymentsBehind_27 rfl ?_
    refine e_lcmp dX4_paymentsBehind_28 ?_
    refine e_lc_lt 36 dX4_paymentsBehind_29 (by decide) (fun q2 => ?_) (fun q2 => ?_)
    · skip
      have q2' := Int64.not_le.mpr q2
      refine e_lload_n 0 dX4_paymentsBehind_36 rfl ?_
      refine e_aload_n 1 dX4_paymentsBehind_37 rfl ?_
      refine e_getLv (vf u) dX4_paymentsBehind_38 fl_X4_21 rfl (hq.Tt (by omega)) (hq.gv (hu)) ?_
      refine e_lsub dX4_paymentsBehind_41 ?_
      refine e_aload_n 1 dX4_paymentsBehind_42 rfl ?_
      refine e_getIv (kg kf u 2) dX4_paymentsBehind_43 fl_X4_18 rfl (hq.Tt (by omega)) (hq.gt (hu) 2 _ (by decide) rfl) ?_
      refine e_i2l dX4_paymentsBehind_46 ?_
      refine e_lmul dX4_paymentsBehind_47 ?_
      refine e_aload_n 1 dX4_paymentsBehind_48 rfl ?_
      refine e_getIv (kg kf u 3) dX4_paymentsBehind_49 fl_X4_25 rfl (hq.Tt (by omega)) (hq.gt (hu) 3 _ (by decide) rfl) ?_
      refine e_i2l dX4_paymentsBehind_52 ?_
      refine e_lsub dX4_paymentsBehind_53 ?_
      refine e_ldc2 dX4_paymentsBehind_54 cs_X4_103 ?_
      refine e_lv (w := lN 999) (by decide) ?_
      refine e_ladd dX4_paymentsBehind_57 ?_
      refine e_ldc2 dX4_paymentsBehind_58 cs_X4_105 ?_
      refine e_lv (w := lN 1000) (by decide) ?_
      refine e_ldiv dX4_paymentsBehind_61 (by decide) ?_
      exact e_retL dX4_paymentsBehind_62 rfl (by rw [pbF, if_pos (show u ≤ s by omega), if_neg (Int64.not_le.mpr q2)]) rfl
    · skip
      have q2' := Int64.not_lt.mp q2
      refine e_lconst (v := lN 0) dX4_paymentsBehind_32 (by decide) ?_
      refine e_goto 62 dX4_paymentsBehind_33 (by decide) ?_
      exact e_retL dX4_paymentsBehind_62 rfl (by rw [pbF, if_pos (show u ≤ s by omega), if_pos (Int64.not_lt.mp q2)]) rfl
  · skip
    have q1' := Nat.not_le.mpr q1
    refine e_ic (nI 0) dX4_paymentsBehind_15 (by decide) ?_
    refine e_goto 20 dX4_paymentsBehind_16 (by decide) ?_
    refine e_i2lN dX4_paymentsBehind_20 (by omega) ?_
    refine e_ladd dX4_paymentsBehind_21 ?_
    refine e_lstore_n (lv' := [(3, .long ((key kf vf s) + (lN 0))), (0, .ref (Y.1 (9 + u))), (1, .long (rkA kf vf s))]) dX4_paymentsBehind_22 (by decide) rfl ?_
    refine e_aload_n 1 dX4_paymentsBehind_23 rfl ?_
    refine e_getLv (vf u) dX4_paymentsBehind_24 fl_X4_21 rfl (hq.Tt (by omega)) (hq.gv (hu)) ?_
    refine e_lload_n 0 dX4_paymentsBehind_27 rfl ?_
    refine e_lcmp dX4_paymentsBehind_28 ?_
    refine e_lc_lt 36 dX4_paymentsBehind_29 (by decide) (fun q2 => ?_) (fun q2 => ?_)
    · skip
      have q2' := Int64.not_le.mpr q2
      refine e_lload_n 0 dX4_paymentsBehind_36 rfl ?_
      refine e_aload_n 1 dX4_paymentsBehind_37 rfl ?_
      refine e_getLv (vf u) dX4_paymentsBehind_38 fl_X4_21 rfl (hq.Tt (by omega)) (hq.gv (hu)) ?_
      refine e_lsub dX4_paymentsBehind_41 ?_
      refine e_aload_n 1 dX4_paymentsBehind_42 rfl ?_
      refine e_getIv (kg kf u 2) dX4_paymentsBehind_43 fl_X4_18 rfl (hq.Tt (by omega)) (hq.gt (hu) 2 _ (by decide) rfl) ?_
      refine e_i2l dX4_paymentsBehind_46 ?_
      refine e_lmul dX4_paymentsBehind_47 ?_
      refine e_aload_n 1 dX4_paymentsBehind_48 rfl ?_
      refine e_getIv (kg kf u 3) dX4_paymentsBehind_49 fl_X4_25 rfl (hq.Tt (by omega)) (hq.gt (hu) 3 _ (by decide) rfl) ?_
      refine e_i2l dX4_paymentsBehind_52 ?_
      refine e_lsub dX4_paymentsBehind_53 ?_
      refine e_ldc2 dX4_paymentsBehind_54 cs_X4_103 ?_
      refine e_lv (w := lN 999) (by decide) ?_
      refine e_ladd dX4_paymentsBehind_57 ?_
      refine e_ldc2 dX4_paymentsBehind_58 cs_X4_105 ?_
      refine e_lv (w := lN 1000) (by decide) ?_
      refine e_ldiv dX4_paymentsBehind_61 (by decide) ?_
      exact e_retL dX4_paymentsBehind_62 rfl (by rw [pbF, if_neg (show ¬ u ≤ s by omega), if_neg (Int64.not_le.mpr q2)]) rfl
    · skip
      have q2' := Int64.not_lt.mp q2
      refine e_lconst (v := lN 0) dX4_paymentsBehind_32 (by decide) ?_
      refine e_goto 62 dX4_paymentsBehind_33 (by decide) ?_
      exact e_retL dX4_paymentsBehind_62 rfl (by rw [pbF, if_neg (show ¬ u ≤ s by omega), if_pos (Int64.not_lt.mp q2)]) rfl

set_option maxRecDepth 100000 in
set_option maxHeartbeats 4000000 in
theorem k_turnsAhead (hq : KQ Z m Y ρ kf vf n) {u s : Nat} (hu : u < n) (hs : s < n) (hR : RH kf vf n) (hpm : pmF kf vf u (key kf vf s) s = pbF kf vf u (key kf vf s + (if u ≤ s then lN 1 else lN 0))) : Ev G 2 uX0_turnsAhead [.ref (Y.1 0), .ref (Y.1 (9 + u)), .long (rkA kf vf s)] m (some (.long (taV kf vf u s))) m := by
  refine Ev.of (by decide +kernel) (Nat.le_of_ble_eq_true rfl) ?_
  have hn2 := hq.n2
  refine e_lvs (lv' := [(0, .ref (Y.1 0)), (1, .ref (Y.1 (9 + u))), (2, .long (rkA kf vf s))]) rfl ?_
  refine e_lload_n 2 dX0_turnsAhead_0 rfl ?_
  refine e_callS (st := []) (st1 := [.int (cls kf s)]) (As := [.long (rkA kf vf s)]) ((by have z := k_classOf (G := G) (m := m) (rkA kf vf s); rw [hR.cl hn2 hs] at z; exact z)) dX0_turnsAhead_1 (by decide) cm_X5_classOf lk_X0_171 sm_X5_classOf rfl rfl (Nat.le_of_ble_eq_true rfl) rfl ?_
  refine e_if_ne 13 dX0_turnsAhead_4 (by decide) (fun q1 => ?_) (fun q1 => ?_)
  · skip
    refine e_aload_n 1 dX0_turnsAhead_13 rfl ?_
    refine e_lload_n 2 dX0_turnsAhead_14 rfl ?_
    refine e_callV (ci := 4) (st := []) (st1 := [.long (pmF kf vf u (key kf vf s) s)]) (As := [.long (rkA kf vf s)]) ((by have z := k_paymentsBehind (G := G) hq hu hs hR; rw [← hpm] at z; exact z)) dX0_turnsAhead_15 (by decide) cm_X4_paymentsBehind lk_X0_326 im_X4_paymentsBehind rfl sel_X4_paymentsBehind (hq.Tt (by omega)) rfl rfl (Nat.le_of_ble_eq_true rfl) rfl ?_
    refine e_lstore (lv' := [(4, .long (pmF kf vf u (key kf vf s) s)), (0, .ref (Y.1 0)), (1, .ref (Y.1 (9 + u))), (2, .long (rkA kf vf s))]) dX0_turnsAhead_18 (by decide) rfl ?_
    refine e_aload_n 2 dX0_turnsAhead_20 rfl ?_
    refine e_getIv (kg kf u 0) dX0_turnsAhead_21 fl_X0_204 rfl (hq.Tt (by omega)) (hq.gt (hu) 0 _ (by decide) rfl) ?_
    by_cases hsw : inI (kg kf u 0) (nI 1) (nI 4) = true
    · skip
      obtain ⟨jsw, hsw1, hsw2, hk⟩ := inI_n (by decide) (by decide) hsw
      refine e_iv (w := nI jsw) hk ?_
      rcases (show jsw = 1 ∨ jsw = 2 ∨ jsw = 3 ∨ jsw = 4 by omega) with rfl | rfl | rfl | rfl
      · skip
        refine e_tabIn (off := 32) 56 dX0_turnsAhead_24 (by decide) (by decide) (by decide) (by decide) ?_
        refine e_aload_n 2 dX0_turnsAhead_56 rfl ?_
        refine e_getIv (kg kf u 13) dX0_turnsAhead_57 fl_X0_201 rfl (hq.Tt (by omega)) (hq.gt (hu) 13 _ (by decide) rfl) ?_
        refine e_i2l dX0_turnsAhead_60 ?_
        refine e_lload 0 dX0_turnsAhead_61 rfl ?_
        refine e_ladd dX0_turnsAhead_63 ?_
        exact e_retL dX0_turnsAhead_64 rfl (by rw [taV, if_neg q1, hk, if_pos (show nI 1 = 1 from rfl)]) rfl
      · skip
        refine e_tabIn (off := 41) 65 dX0_turnsAhead_24 (by decide) (by decide) (by decide) (by decide) ?_
        refine e_aload_n 2 dX0_turnsAhead_65 rfl ?_
        refine e_getIv (kg kf u 13) dX0_turnsAhead_66 fl_X0_201 rfl (hq.Tt (by omega)) (hq.gt (hu) 13 _ (by decide) rfl) ?_
        refine e_i2l dX0_turnsAhead_69 ?_
        refine e_lload 0 dX0_turnsAhead_70 rfl ?_
        refine e_jmaxL dX0_turnsAhead_72 lkm_X0_329 (Nat.le_of_ble_eq_true rfl) ?_
        exact e_retL dX0_turnsAhead_75 rfl (by rw [taV, if_neg q1, hk, if_neg (show ¬ nI 2 = 1 by decide), if_pos (show nI 2 = 2 from rfl)]) rfl
      · skip
        refine e_tabIn (off := 61) 85 dX0_turnsAhead_24 (by decide) (by decide) (by decide) (by decide) ?_
        refine e_lload 0 dX0_turnsAhead_85 rfl ?_
        exact e_retL dX0_turnsAhead_87 rfl (by rw [taV, if_neg q1, hk, if_neg (show ¬ nI 3 = 1 by decide), if_neg (show ¬ nI 3 = 2 by decide), if_neg (show ¬ nI 3 = 4 by decide)]) rfl
      · skip
        refine e_tabIn (off := 52) 76 dX0_turnsAhead_24 (by decide) (by decide) (by decide) (by decide) ?_
        refine e_lload 0 dX0_turnsAhead_76 rfl ?_
        refine e_lconst (v := lN 1) dX0_turnsAhead_78 (by decide) ?_
        refine e_ladd dX0_turnsAhead_79 ?_
        refine e_ldc2 dX0_turnsAhead_80 cs_X0_332 ?_
        refine e_lv (w := lN 2) (by decide) ?_
        refine e_ldiv dX0_turnsAhead_83 (by decide) ?_
        exact e_retL dX0_turnsAhead_84 rfl (by rw [taV, if_neg q1, hk, if_neg (show ¬ nI 4 = 1 by decide), if_neg (show ¬ nI 4 = 2 by decide), if_pos (show nI 4 = 4 from rfl)]) rfl
    · skip
      rw [Bool.not_eq_true] at hsw
      refine e_tabOut 85 dX0_turnsAhead_24 (inI_out (a := 1) (b := 4) (by decide) (by decide) hsw) (by decide) ?_
      refine e_lload 0 dX0_turnsAhead_85 rfl ?_
      exact e_retL dX0_turnsAhead_87 rfl (by rw [taV, if_neg q1, if_neg (show ¬ kg kf u 0 = 1 from fun z => by rw [z] at hsw; exact absurd hsw (by decide)), if_neg (show ¬ kg kf u 0 = 2 from fun z => by rw [z] at hsw; exact absurd hsw (by decide)), if_neg (show ¬ kg kf u 0 = 4 from fun z => by rw [z] at hsw; exact absurd hsw (by decide))]) rfl
  · skip
    refine e_aload_n 1 dX0_turnsAhead_7 rfl ?_
    refine e_getIv (kg kf u 13) dX0_turnsAhead_8 fl_X0_201 rfl (hq.Tt (by omega)) (hq.gt (hu) 13 _ (by decide) rfl) ?_
    refine e_i2l dX0_turnsAhead_11 ?_
    exact e_retL dX0_turnsAhead_12 rfl (by rw [taV, if_pos q1]) rfl

set_option maxRecDepth 100000 in
set_option maxHeartbeats 4000000 in
theorem k_ticksUntilChosen (hq : KQ Z m Y ρ kf vf n) {t : Nat} (ht : t < n) (hW : WF kf n) {w B : Nat} (hG : WG kf vf w B) (hB : B < 2 ^ 40) (hw : w < 2 ^ 30) (h6 : kg kf t 6 = 0) : EvC G 3 uX0_ticksUntilChosen [.ref (Y.1 0), .ref (Y.1 (9 + t))] m (fun r mm => r = some (.long (bdR kf vf (nI t))) ∧ KQ Z mm Y ρ kf vf n) := by
  refine EvC.of (by decide +kernel) (Nat.le_of_ble_eq_true rfl) ?_
  have hn2 := hq.n2
  have hR := hG.rh hW hB hw
  obtain ⟨P, hP1, hP4, hP⟩ := hW.2.2.2.2.2.2.2.2
  have hs := (stnd_min hW hR ht).1
  have hst := fun u (hu : u < n) => (stnd_min hW hR hu).1
  have hpm : ∀ u, u < n → pmF kf vf u (key kf vf (stnd kf vf t)) (stnd kf vf t) = pbF kf vf u (key kf vf (stnd kf vf t) + (if u ≤ stnd kf vf t then lN 1 else lN 0)) := fun u hu => by
    obtain ⟨c, k, -, hk, -, ek, -⟩ := hR.pcs hn2 hs
    obtain ⟨-, -, ⟨r, sh, h3, h2, hr, hsh⟩, -, -, ⟨x, hx, hxB⟩, -⟩ := hG.at hW hu
    rw [ek]
    exact pm_eq hx h2 h3 hr hsh (by omega) hk
  have hd0 : ∀ u, u < n → isDue kf u = false → kg kf u 13 = 0 := fun u hu q => by
    obtain ⟨-, -, -, -, ⟨h5, -⟩, -⟩ := hG.at hW hu
    exact (h5 (fun z => by rw [due_iff.mpr z] at q; cases q)).2
  have hT : tIn kf (nI t) = true := tIn_of hq.n1 hn2 ht
  have L : ∀ (M : Mem), KQ Z M Y ρ kf vf n → (∀ t, t < n → gL M 98 (Y.1 (9 + t)) = rkA kf vf (stnd kf vf t)) → ∀ (k i c : Nat) (S : Int64), i + k = n → c ≤ i → (c, S) = lp (bdS kf vf t (stnd kf vf t)) i (0, lN 0) → EvR G 3 uX0_ticksUntilChosen (zz m) (nn m) (fun r mm => r = some (.long (bdR kf vf (nI t))) ∧ KQ Z mm Y ρ kf vf n) 11 [(5, .int (nI i)), (2, .int (nI c)), (3, .long S), (0, .ref (Y.1 0)), (1, .ref (Y.1 (9 + t)))] [] M := by
    intro M hI hσ k
    induction k with
    | zero =>
      intro i c S hi hc hcS
      have hbF : bdF kf vf t = (c, S) := by rw [bdF, hW.nt, hcS, show i = n by omega]
      refine r_go (fun kk => e_iload 0 dX0_ticksUntilChosen_11 rfl kk) ?_
      refine r_go (fun kk => e_aload_n 3 dX0_ticksUntilChosen_13 rfl kk) ?_
      refine r_go (fun kk => e_getIv (nI n) dX0_ticksUntilChosen_14 fl_X0_43 rfl (hI.T 0 (by decide)) hI.n7 kk) ?_
      refine r_go (fun kk => e_icmp_geN 91 dX0_ticksUntilChosen_17 (by decide) (by omega) (by omega) (fun _ => kk) (fun h => absurd h (by omega))) ?_
      refine r_go (fun kk => e_aload_n 3 dX0_ticksUntilChosen_91 rfl kk) ?_
      refine r_go (fun kk => e_getIv (kf 2) dX0_ticksUntilChosen_92 fl_X0_50 rfl (hI.T 0 (by decide)) hI.2.1.1.2.2.1 (e_iv (w := nI P) (hP) kk)) ?_
      refine r_go (fun kk => e_iload_n 1 dX0_ticksUntilChosen_95 rfl kk) ?_
      refine r_go (fun kk => e_isub dX0_ticksUntilChosen_96 kk) ?_
      refine r_go (fun kk => e_istore (lv' := [(5, .int ((nI P) - (nI c))), (2, .int (nI c)), (3, .long S), (0, .ref (Y.1 0)), (1, .ref (Y.1 (9 + t)))]) dX0_ticksUntilChosen_97 (by decide) rfl kk) ?_
      refine r_go (fun kk => e_iload 0 dX0_ticksUntilChosen_99 rfl kk) ?_
      refine r_b1 (fun ka kb => e_if_le 114 dX0_ticksUntilChosen_101 (by decide) ka kb) (fun q4 => ?_) (fun q4 => ?_)
      · skip
        have q4' := Int32.not_lt.mpr q4
        refine r_go (fun kk => e_ldc2 dX0_ticksUntilChosen_114 cs_X0_162 kk) ?_
        exact r_ret ⟨by rw [bdR, hT, nI_clamp (show t < 2 ^ 31 by omega), h6, hbF, hP]; dsimp only; rw [if_pos (by decide), if_neg (fun z => absurd ((nI_ltI (by omega) (by omega)).mp z) (by have := (i_sub_le (P := P) (c := c) (by omega) (by omega)).mp q4; omega))], hI⟩ (e_retL dX0_ticksUntilChosen_117 rfl rfl)
      · skip
        have q4' := Int32.not_le.mp q4
        refine r_go (fun kk => e_lload_n 2 dX0_ticksUntilChosen_104 rfl kk) ?_
        refine r_go (fun kk => e_iload 0 dX0_ticksUntilChosen_105 rfl kk) ?_
        refine r_go (fun kk => e_i2l dX0_ticksUntilChosen_107 kk) ?_
        refine r_go (fun kk => e_ldiv dX0_ticksUntilChosen_108 (fun z => q4 (by have := congrArg Int64.toInt32 z; simp at this; rw [this]; exact Int32.le_refl _)) kk) ?_
        refine r_go (fun kk => e_lconst (v := lN 1) dX0_ticksUntilChosen_109 (by decide) kk) ?_
        refine r_go (fun kk => e_ladd dX0_ticksUntilChosen_110 kk) ?_
        refine r_go (fun kk => e_goto 117 dX0_ticksUntilChosen_111 (by decide) kk) ?_
        exact r_ret ⟨by rw [bdR, hT, nI_clamp (show t < 2 ^ 31 by omega), h6, hbF, hP]; dsimp only; rw [if_pos (by decide), if_pos (nI_lt (Nat.lt_of_not_le (fun z => q4 ((i_sub_le (P := P) (c := c) (by omega) (by omega)).mpr z))) (by omega))], hI⟩ (e_retL dX0_ticksUntilChosen_117 rfl rfl)
    | succ k ih =>
      intro i c S hi hc hcS
      have hin : i < n := by omega
      refine r_go (fun kk => e_iload 0 dX0_ticksUntilChosen_11 rfl kk) ?_
      refine r_go (fun kk => e_aload_n 3 dX0_ticksUntilChosen_13 rfl kk) ?_
      refine r_go (fun kk => e_getIv (nI n) dX0_ticksUntilChosen_14 fl_X0_43 rfl (hI.T 0 (by decide)) hI.n7 kk) ?_
      refine r_go (fun kk => e_icmp_geN 91 dX0_ticksUntilChosen_17 (by decide) (by omega) (by omega) (fun h => absurd h (by omega)) (fun _ => kk)) ?_
      refine r_go (fun kk => e_aload_n 3 dX0_ticksUntilChosen_20 rfl kk) ?_
      refine r_go (fun kk => e_getP (some (Y.1 1)) dX0_ticksUntilChosen_21 fl_X0_11 rfl (hI.T 0 (by decide)) (hI.1.2.2.1.1) kk) ?_
      refine r_go (fun kk => e_iload 0 dX0_ticksUntilChosen_24 rfl kk) ?_
      refine r_go (fun kk => e_aaldN (some (Y.1 (9 + i))) dX0_ticksUntilChosen_26 (hI.T 1 (by decide)) (Or.inr rfl) (by rw [hI.1.2.1.1]; exact (by omega)) (by rw [hI.1.2.1.1]; decide) (hI.pt (by omega)) kk) ?_
      refine r_go (fun kk => e_astore (lv' := [(6, .ref (Y.1 (9 + i))), (5, .int (nI i)), (2, .int (nI c)), (3, .long S), (0, .ref (Y.1 0)), (1, .ref (Y.1 (9 + t)))]) dX0_ticksUntilChosen_27 (by decide) rfl kk) ?_
      refine r_go (fun kk => e_aload 0 dX0_ticksUntilChosen_29 rfl kk) ?_
      refine r_go (fun kk => e_getIv (kg kf i 6) dX0_ticksUntilChosen_31 fl_X0_93 rfl (hI.Tt (by omega)) (hI.gt (by omega) 6 _ (by decide) rfl) kk) ?_
      refine r_b2 (fun ka kb => e_if_ne 85 dX0_ticksUntilChosen_34 (by decide) ka kb) (fun q1 => ?_) (fun q1 => ?_)
      · skip
        refine r_go (fun kk => e_iinc1N (lv' := [(5, .int (nI (i + 1))), (6, .ref (Y.1 (9 + i))), (2, .int (nI c)), (3, .long S), (0, .ref (Y.1 0)), (1, .ref (Y.1 (9 + t)))]) 1 dX0_ticksUntilChosen_85 rfl (by decide) rfl kk) ?_
        refine r_go (fun kk => e_goto 11 dX0_ticksUntilChosen_88 (by decide) kk) ?_
        refine r_go (fun kk => e_sub [0, 2, 3, 4, 5] rfl kk) ?_
        exact ih (i + 1) c S (by omega) (by omega) (by show _ = bdS kf vf t (stnd kf vf t) i (lp (bdS kf vf t (stnd kf vf t)) i (0, lN 0)); rw [← hcS]; rw [bdS, if_neg (fun z => q1 z.1)])
      · skip
        refine r_go (fun kk => e_aload 0 dX0_ticksUntilChosen_37 rfl kk) ?_
        refine r_go (fun kk => e_getLv (rkA kf vf (stnd kf vf i)) dX0_ticksUntilChosen_39 fl_X0_168 rfl (hI.Tt (by omega)) (hσ i (by omega)) kk) ?_
        refine r_go (fun kk => e_aload_n 5 dX0_ticksUntilChosen_42 rfl kk) ?_
        refine r_go (fun kk => e_getLv (rkA kf vf (stnd kf vf t)) dX0_ticksUntilChosen_43 fl_X0_168 rfl (hI.Tt (by omega)) (hσ t (by omega)) kk) ?_
        refine r_go (fun kk => e_lcmp dX0_ticksUntilChosen_46 kk) ?_
        refine r_b1 (fun ka kb => e_lc_ge 85 dX0_ticksUntilChosen_47 (by decide) ka kb) (fun q2 => ?_) (fun q2 => ?_)
        · skip
          have q2' := Int64.not_lt.mpr q2
          refine r_go (fun kk => e_iinc1N (lv' := [(5, .int (nI (i + 1))), (6, .ref (Y.1 (9 + i))), (2, .int (nI c)), (3, .long S), (0, .ref (Y.1 0)), (1, .ref (Y.1 (9 + t)))]) 1 dX0_ticksUntilChosen_85 rfl (by decide) rfl kk) ?_
          refine r_go (fun kk => e_goto 11 dX0_ticksUntilChosen_88 (by decide) kk) ?_
          refine r_go (fun kk => e_sub [0, 2, 3, 4, 5] rfl kk) ?_
          exact ih (i + 1) c S (by omega) (by omega) (by show _ = bdS kf vf t (stnd kf vf t) i (lp (bdS kf vf t (stnd kf vf t)) i (0, lN 0)); rw [← hcS]; rw [bdS, if_neg (fun z => Int64.not_lt.mpr q2 ((hR.ah hn2 (hst i hin) hs).mp z.2.2))])
        · skip
          have q2' := Int64.not_le.mp q2
          refine r_go (fun kk => e_aload 0 dX0_ticksUntilChosen_50 rfl kk) ?_
          refine r_go (fun kk => e_getLv (rkA kf vf (stnd kf vf i)) dX0_ticksUntilChosen_52 fl_X0_168 rfl (hI.Tt (by omega)) (hσ i (by omega)) kk) ?_
          refine r_go (fun kk => e_callS (st := []) (st1 := [.int (nI (stnd kf vf i))]) (As := [.long (rkA kf vf (stnd kf vf i))]) ((by have z := k_numberOf (G := G) (m := M) (rkA kf vf (stnd kf vf i)); rw [hR.nu hn2 (hst i hin)] at z; exact z)) dX0_ticksUntilChosen_55 (by decide) cm_X5_numberOf lk_X0_319 sm_X5_numberOf rfl rfl (Nat.le_of_ble_eq_true rfl) rfl kk) ?_
          refine r_go (fun kk => e_aload 0 dX0_ticksUntilChosen_58 rfl kk) ?_
          refine r_go (fun kk => e_getIv (nI i) dX0_ticksUntilChosen_60 fl_X0_108 rfl (hI.Tt (by omega)) (hI.gno (by omega)) kk) ?_
          refine r_b2 (fun ka kb => e_icmp_neN 82 dX0_ticksUntilChosen_63 (by decide) (by have := hst i hin; omega) (by omega) ka kb) (fun q3 => ?_) (fun q3 => ?_)
          · skip
            refine r_go (fun kk => e_iinc1N (lv' := [(2, .int (nI (c + 1))), (6, .ref (Y.1 (9 + i))), (5, .int (nI i)), (3, .long S), (0, .ref (Y.1 0)), (1, .ref (Y.1 (9 + t)))]) 2 dX0_ticksUntilChosen_82 rfl (by decide) rfl kk) ?_
            refine r_go (fun kk => e_iinc1N (lv' := [(5, .int (nI (i + 1))), (2, .int (nI (c + 1))), (6, .ref (Y.1 (9 + i))), (3, .long S), (0, .ref (Y.1 0)), (1, .ref (Y.1 (9 + t)))]) 2 dX0_ticksUntilChosen_85 rfl (by decide) rfl kk) ?_
            refine r_go (fun kk => e_goto 11 dX0_ticksUntilChosen_88 (by decide) kk) ?_
            have hah : ahead kf vf (stnd kf vf i) (stnd kf vf t) = true := (hR.ah hn2 (hst i hin) hs).mpr (Int64.not_le.mp q2)
            have hit : ¬ i = t := fun z => by rw [z] at q2; exact q2 (Int64.le_refl _)
            refine r_go (fun kk => e_sub [0, 1, 3, 4, 5] rfl kk) ?_
            exact ih (i + 1) (c + 1) S (by omega) (by omega) (by show _ = bdS kf vf t (stnd kf vf t) i (lp (bdS kf vf t (stnd kf vf t)) i (0, lN 0)); rw [← hcS]; rw [bdS, if_pos ⟨q1, hit, hah⟩, if_neg q3])
          · skip
            refine r_go (fun kk => e_lload_n 3 dX0_ticksUntilChosen_66 rfl kk) ?_
            refine r_go (fun kk => e_aload_n 4 dX0_ticksUntilChosen_67 rfl kk) ?_
            refine r_go (fun kk => e_aload 0 dX0_ticksUntilChosen_68 rfl kk) ?_
            refine r_go (fun kk => e_aload_n 5 dX0_ticksUntilChosen_70 rfl kk) ?_
            refine r_go (fun kk => e_getLv (rkA kf vf (stnd kf vf t)) dX0_ticksUntilChosen_71 fl_X0_168 rfl (hI.Tt (by omega)) (hσ t (by omega)) kk) ?_
            refine r_go (fun kk => e_callV (ci := 0) (st := [.long S]) (st1 := [.long (taV kf vf i (stnd kf vf t)), .long S]) (As := [.ref (Y.1 (9 + i)), .long (rkA kf vf (stnd kf vf t))]) (k_turnsAhead hI hin hs hR (hpm i hin)) dX0_ticksUntilChosen_74 (by decide) cm_X0_turnsAhead lk_X0_322 im_X0_turnsAhead rfl sel_X0_turnsAhead (hI.T 0 (by decide)) rfl rfl (Nat.le_of_ble_eq_true rfl) rfl kk) ?_
            refine r_go (fun kk => e_ladd dX0_ticksUntilChosen_77 kk) ?_
            refine r_go (fun kk => e_lstore_n (lv' := [(3, .long (S + (taV kf vf i (stnd kf vf t)))), (6, .ref (Y.1 (9 + i))), (5, .int (nI i)), (2, .int (nI c)), (0, .ref (Y.1 0)), (1, .ref (Y.1 (9 + t)))]) dX0_ticksUntilChosen_78 (by decide) rfl kk) ?_
            refine r_go (fun kk => e_goto 85 dX0_ticksUntilChosen_79 (by decide) kk) ?_
            refine r_go (fun kk => e_iinc1N (lv' := [(5, .int (nI (i + 1))), (3, .long (S + (taV kf vf i (stnd kf vf t)))), (6, .ref (Y.1 (9 + i))), (2, .int (nI c)), (0, .ref (Y.1 0)), (1, .ref (Y.1 (9 + t)))]) 2 dX0_ticksUntilChosen_85 rfl (by decide) rfl kk) ?_
            refine r_go (fun kk => e_goto 11 dX0_ticksUntilChosen_88 (by decide) kk) ?_
            have hah : ahead kf vf (stnd kf vf i) (stnd kf vf t) = true := (hR.ah hn2 (hst i hin) hs).mpr (Int64.not_le.mp q2)
            have hit : ¬ i = t := fun z => by rw [z] at q2; exact q2 (Int64.le_refl _)
            refine r_go (fun kk => e_sub [0, 3, 1, 4, 5] rfl kk) ?_
            exact ih (i + 1) c (S + (taV kf vf i (stnd kf vf t))) (by omega) (by omega) (by show _ = bdS kf vf t (stnd kf vf t) i (lp (bdS kf vf t (stnd kf vf t)) i (0, lN 0)); rw [← hcS]; rw [bdS_ta (hd0 i hin) q1 hit hah q3])
  refine r_go (fun kk => e_lvs (lv' := [(0, .ref (Y.1 0)), (1, .ref (Y.1 (9 + t)))]) rfl kk) ?_
  refine r_go (fun kk => e_aload_n 0 dX0_ticksUntilChosen_0 rfl kk) ?_
  obtain ⟨_, m1, ⟨rfl, hq1, hσ⟩, E1x1⟩ := k_settle (G := G) hq hW hR
  refine r_go (fun kk => e_callV (ci := 0) (st := []) (st1 := []) (As := []) (E1x1) dX0_ticksUntilChosen_1 (by decide) cm_X0_settle lk_X0_159 im_X0_settle rfl sel_X0_settle (hq.T 0 (by decide)) rfl rfl (Nat.le_of_ble_eq_true rfl) rfl kk) ?_
  refine r_go (fun kk => e_ic (nI 0) dX0_ticksUntilChosen_4 (by decide) kk) ?_
  refine r_go (fun kk => e_istore_n (lv' := [(2, .int (nI 0)), (0, .ref (Y.1 0)), (1, .ref (Y.1 (9 + t)))]) dX0_ticksUntilChosen_5 (by decide) rfl kk) ?_
  refine r_go (fun kk => e_lconst (v := lN 0) dX0_ticksUntilChosen_6 (by decide) kk) ?_
  refine r_go (fun kk => e_lstore_n (lv' := [(3, .long (lN 0)), (2, .int (nI 0)), (0, .ref (Y.1 0)), (1, .ref (Y.1 (9 + t)))]) dX0_ticksUntilChosen_7 (by decide) rfl kk) ?_
  refine r_go (fun kk => e_ic (nI 0) dX0_ticksUntilChosen_8 (by decide) kk) ?_
  refine r_go (fun kk => e_istore (lv' := [(5, .int (nI 0)), (3, .long (lN 0)), (2, .int (nI 0)), (0, .ref (Y.1 0)), (1, .ref (Y.1 (9 + t)))]) dX0_ticksUntilChosen_9 (by decide) rfl kk) ?_
  refine r_go (fun kk => e_sub [0, 2, 1, 3, 4] rfl kk) ?_
  exact L _ hq1 hσ n 0 0 (lN 0) (by omega) (Nat.le_refl _) rfl

end Class18
