/-! the class: taking a lock -/
theorem upd_cm (f : Nat → Int32) {i j : Nat} (x y : Int32) (h : i ≠ j) : upd (upd f i x) j y = upd (upd f j y) i x := by
  funext k
  unfold upd
  by_cases h1 : k = j
  · rw [if_pos h1, if_neg (by omega), if_pos h1]
  · rw [if_neg h1]
    by_cases h2 : k = i
    · rw [if_pos h2, if_pos h2]
    · rw [if_neg h2, if_neg h2, if_neg h1]
theorem rgP_c (kf : KF) (t c c' : Nat) (h : Int32) : ∀ j, rgP kf t c' h j = upd (rgP kf t c h j) 5 (nI (c' + 1)) := by
  intro j
  induction j with
  | zero =>
    show upd (upd (upd kf 4 (kf 4 + nI 1)) 5 (nI (c' + 1))) 16 (nI t) = upd (upd (upd (upd kf 4 (kf 4 + nI 1)) 5 (nI (c + 1))) 16 (nI t)) 5 (nI (c' + 1))
    rw [upd_cm (upd (upd kf 4 (kf 4 + nI 1)) 5 (nI (c + 1))) _ _ (show 16 ≠ 5 by omega), upd_upd]
  | succ j ih =>
    show upd (rgP kf t c' h j) (16 + (j + 1)) (itr kf j h) = upd (upd (rgP kf t c h j) (16 + (j + 1)) (itr kf j h)) 5 (nI (c' + 1))
    rw [ih, upd_cm _ _ _ (show 5 ≠ 16 + (j + 1) by omega)]
theorem rgP_s (kf : KF) (t j : Nat) (h : Int32) : rgP kf t (j + 1) h (j + 1) = upd (upd (rgP kf t j h j) (16 + (j + 1)) (itr kf j h)) 5 (nI (j + 2)) := by
  show upd (rgP kf t (j + 1) h j) (16 + (j + 1)) (itr kf j h) = _
  rw [rgP_c kf t j (j + 1), upd_cm _ _ _ (show 5 ≠ 16 + (j + 1) by omega)]
section Class12
variable {G : GG} {Z : Mem × YY} {m : Mem} {Y : YY} {ρ n : Nat} {kf : KF} {vf : VF}

set_option maxRecDepth 100000 in
set_option maxHeartbeats 4000000 in
theorem k_leadsTo (hq : KQ Z m Y ρ kf vf n) {t : Nat} (ht : t < n) (hW : WF kf n) {h : Nat} (hh : h < n) : Ev G 1 uX0_leadsTo [.ref (Y.1 0), .int (nI h), .ref (Y.1 (9 + t))] m (some (.int (bI (decide (chn kf t 200 (nI h) = nI t))))) m := by
  refine Ev.of (by decide +kernel) (Nat.le_of_ble_eq_true rfl) ?_
  have hn2 := hq.n2
  have ne : ∀ a, a < n → a ≠ t → Y.1 (9 + a) ≠ Y.1 (9 + t) := fun a ha q => hq.1.inj (by omega) (by omega) (by omega)
  have L : ∀ (f i : Nat), i + f = 200 → (∀ a, a < n → chn kf t f (nI a) = chn kf t 200 (nI h) → EvB G 1 uX0_leadsTo (zz m) (nn m) (some (.int (bI (decide (chn kf t 200 (nI h) = nI t))))) m 9 [(4, .int (nI i)), (3, .ref (Y.1 (9 + a))), (0, .ref (Y.1 0)), (2, .ref (Y.1 (9 + t)))] [] m) ∧ (chn kf t 200 (nI h) < 0 → EvB G 1 uX0_leadsTo (zz m) (nn m) (some (.int (bI (decide (chn kf t 200 (nI h) = nI t))))) m 9 [(4, .int (nI i)), (3, .null), (0, .ref (Y.1 0)), (2, .ref (Y.1 (9 + t)))] [] m) := by
    intro f
    induction f with
    | zero =>
      intro i hi
      refine ⟨fun a ha hc => ?_, fun hc => ?_⟩
      · have hc2 : nI a = chn kf t 200 (nI h) := hc
        by_cases hat : a = t
        · subst hat
          refine e_iload 0 dX0_leadsTo_9 rfl ?_
          refine e_sipush (v := nI 200) dX0_leadsTo_11 (by decide) ?_
          refine e_icmp_geN 38 dX0_leadsTo_14 (by decide) (by omega) (by omega) (fun _ => ?_) (fun h => absurd h (by omega))
          refine e_aload_n 1 dX0_leadsTo_38 rfl ?_
          refine e_aload_n 3 dX0_leadsTo_39 rfl ?_
          refine e_acmp_ne 47 (some (Y.1 (9 + a))) (some (Y.1 (9 + a))) dX0_leadsTo_40 (by decide) rfl rfl (fun h => absurd h (not_not_intro rfl)) (fun _ => ?_)
          refine e_ic (nI 1) dX0_leadsTo_43 (by decide) ?_
          refine e_goto 48 dX0_leadsTo_44 (by decide) ?_
          exact e_retI dX0_leadsTo_48 rfl rfl (bI_t (decide_eq_true (hc2.symm))) rfl
        · skip
          refine e_iload 0 dX0_leadsTo_9 rfl ?_
          refine e_sipush (v := nI 200) dX0_leadsTo_11 (by decide) ?_
          refine e_icmp_geN 38 dX0_leadsTo_14 (by decide) (by omega) (by omega) (fun _ => ?_) (fun h => absurd h (by omega))
          refine e_aload_n 1 dX0_leadsTo_38 rfl ?_
          refine e_aload_n 3 dX0_leadsTo_39 rfl ?_
          refine e_acmp_ne 47 (some (Y.1 (9 + a))) (some (Y.1 (9 + t))) dX0_leadsTo_40 (by decide) rfl rfl (fun _ => ?_) (fun h => absurd h (fun z => ne a ha hat (Option.some.inj z)))
          refine e_ic (nI 0) dX0_leadsTo_47 (by decide) ?_
          exact e_retI dX0_leadsTo_48 rfl rfl (bI_f (decide_eq_false (fun z => hat ((nI_eq (by omega) (by omega)).mp (hc2.trans z))))) rfl
      · skip
        refine e_iload 0 dX0_leadsTo_9 rfl ?_
        refine e_sipush (v := nI 200) dX0_leadsTo_11 (by decide) ?_
        refine e_icmp_geN 38 dX0_leadsTo_14 (by decide) (by omega) (by omega) (fun _ => ?_) (fun h => absurd h (by omega))
        refine e_aload_nN 1 dX0_leadsTo_38 rfl ?_
        refine e_aload_n 3 dX0_leadsTo_39 rfl ?_
        refine e_acmp_ne 47 none (some (Y.1 (9 + t))) dX0_leadsTo_40 (by decide) rfl rfl (fun _ => ?_) (fun h => absurd h (fun z => by cases z))
        refine e_ic (nI 0) dX0_leadsTo_47 (by decide) ?_
        exact e_retI dX0_leadsTo_48 rfl rfl (bI_f (decide_eq_false (fun z => by rw [z] at hc; exact absurd hc (nI_pos (by omega))))) rfl
    | succ f ih =>
      intro i hi
      refine ⟨fun a ha hc => ?_, fun hc => ?_⟩
      · by_cases hat : a = t
        · subst hat
          have hc2 : nI a = chn kf a 200 (nI h) := by
            rw [← hc, chn, if_neg (nI_pos (by omega)), if_pos rfl]
          refine e_iload 0 dX0_leadsTo_9 rfl ?_
          refine e_sipush (v := nI 200) dX0_leadsTo_11 (by decide) ?_
          refine e_icmp_geN 38 dX0_leadsTo_14 (by decide) (by omega) (by omega) (fun h => absurd h (by omega)) (fun _ => ?_)
          refine e_aload_n 1 dX0_leadsTo_17 rfl ?_
          refine e_ifnull dX0_leadsTo_18 ?_
          refine e_aload_n 1 dX0_leadsTo_21 rfl ?_
          refine e_aload_n 3 dX0_leadsTo_22 rfl ?_
          refine e_acmp_eq 38 (some (Y.1 (9 + a))) (some (Y.1 (9 + a))) dX0_leadsTo_23 (by decide) rfl rfl (fun _ => ?_) (fun h => absurd h (not_not_intro rfl))
          refine e_aload_n 1 dX0_leadsTo_38 rfl ?_
          refine e_aload_n 3 dX0_leadsTo_39 rfl ?_
          refine e_acmp_ne 47 (some (Y.1 (9 + a))) (some (Y.1 (9 + a))) dX0_leadsTo_40 (by decide) rfl rfl (fun h => absurd h (not_not_intro rfl)) (fun _ => ?_)
          refine e_ic (nI 1) dX0_leadsTo_43 (by decide) ?_
          refine e_goto 48 dX0_leadsTo_44 (by decide) ?_
          exact e_retI dX0_leadsTo_48 rfl rfl (bI_t (decide_eq_true (hc2.symm))) rfl
        · have hna : ¬ nI a = nI t := fun z => hat ((nI_eq (by omega) (by omega)).mp z)
          rw [chn_s (by omega) hna] at hc
          rcases nxt_ok hW.ch ha with hx | ⟨a2, ha2, hx⟩
          · rw [chn_neg f hx] at hc
            refine e_iload 0 dX0_leadsTo_9 rfl ?_
            refine e_sipush (v := nI 200) dX0_leadsTo_11 (by decide) ?_
            refine e_icmp_geN 38 dX0_leadsTo_14 (by decide) (by omega) (by omega) (fun h => absurd h (by omega)) (fun _ => ?_)
            refine e_aload_n 1 dX0_leadsTo_17 rfl ?_
            refine e_ifnull dX0_leadsTo_18 ?_
            refine e_aload_n 1 dX0_leadsTo_21 rfl ?_
            refine e_aload_n 3 dX0_leadsTo_22 rfl ?_
            refine e_acmp_eq 38 (some (Y.1 (9 + a))) (some (Y.1 (9 + t))) dX0_leadsTo_23 (by decide) rfl rfl (fun h => absurd h (fun z => ne a ha hat (Option.some.inj z))) (fun _ => ?_)
            refine e_aload_n 2 dX0_leadsTo_26 rfl ?_
            refine e_aload_n 1 dX0_leadsTo_27 rfl ?_
            refine e_callV (ci := 0) (st := []) (st1 := [.null]) (As := [.ref (Y.1 (9 + a))]) (k_blockerOfN hq ha hW hx) dX0_leadsTo_28 (by decide) cm_X0_blockerOf lk_X0_186 im_X0_blockerOf rfl sel_X0_blockerOf (hq.T 0 (by decide)) rfl rfl (Nat.le_of_ble_eq_true rfl) rfl ?_
            refine e_astore_nN (lv' := [(3, .null), (4, .int (nI i)), (0, .ref (Y.1 0)), (2, .ref (Y.1 (9 + t)))]) dX0_leadsTo_31 (by decide) rfl ?_
            refine e_iinc1N (lv' := [(4, .int (nI (i + 1))), (3, .null), (0, .ref (Y.1 0)), (2, .ref (Y.1 (9 + t)))]) 1 dX0_leadsTo_32 rfl (by decide) rfl ?_
            refine e_goto 9 dX0_leadsTo_35 (by decide) ?_
            refine e_sub [0, 1, 2, 3] rfl ?_
            exact (ih (i + 1) (by omega)).2 (by rw [← hc]; exact hx)
          · skip
            refine e_iload 0 dX0_leadsTo_9 rfl ?_
            refine e_sipush (v := nI 200) dX0_leadsTo_11 (by decide) ?_
            refine e_icmp_geN 38 dX0_leadsTo_14 (by decide) (by omega) (by omega) (fun h => absurd h (by omega)) (fun _ => ?_)
            refine e_aload_n 1 dX0_leadsTo_17 rfl ?_
            refine e_ifnull dX0_leadsTo_18 ?_
            refine e_aload_n 1 dX0_leadsTo_21 rfl ?_
            refine e_aload_n 3 dX0_leadsTo_22 rfl ?_
            refine e_acmp_eq 38 (some (Y.1 (9 + a))) (some (Y.1 (9 + t))) dX0_leadsTo_23 (by decide) rfl rfl (fun h => absurd h (fun z => ne a ha hat (Option.some.inj z))) (fun _ => ?_)
            refine e_aload_n 2 dX0_leadsTo_26 rfl ?_
            refine e_aload_n 1 dX0_leadsTo_27 rfl ?_
            refine e_callV (ci := 0) (st := []) (st1 := [.ref (Y.1 (9 + a2))]) (As := [.ref (Y.1 (9 + a))]) (k_blockerOf hq ha hW ha2 hx) dX0_leadsTo_28 (by decide) cm_X0_blockerOf lk_X0_186 im_X0_blockerOf rfl sel_X0_blockerOf (hq.T 0 (by decide)) rfl rfl (Nat.le_of_ble_eq_true rfl) rfl ?_
            refine e_astore_n (lv' := [(3, .ref (Y.1 (9 + a2))), (4, .int (nI i)), (0, .ref (Y.1 0)), (2, .ref (Y.1 (9 + t)))]) dX0_leadsTo_31 (by decide) rfl ?_
            refine e_iinc1N (lv' := [(4, .int (nI (i + 1))), (3, .ref (Y.1 (9 + a2))), (0, .ref (Y.1 0)), (2, .ref (Y.1 (9 + t)))]) 1 dX0_leadsTo_32 rfl (by decide) rfl ?_
            refine e_goto 9 dX0_leadsTo_35 (by decide) ?_
            refine e_sub [0, 1, 2, 3] rfl ?_
            exact (ih (i + 1) (by omega)).1 a2 ha2 (by rw [← hx]; exact hc)
      · skip
        refine e_iload 0 dX0_leadsTo_9 rfl ?_
        refine e_sipush (v := nI 200) dX0_leadsTo_11 (by decide) ?_
        refine e_icmp_geN 38 dX0_leadsTo_14 (by decide) (by omega) (by omega) (fun h => absurd h (by omega)) (fun _ => ?_)
        refine e_aload_nN 1 dX0_leadsTo_17 rfl ?_
        refine e_ifnullN 38 dX0_leadsTo_18 (by decide) ?_
        refine e_aload_nN 1 dX0_leadsTo_38 rfl ?_
        refine e_aload_n 3 dX0_leadsTo_39 rfl ?_
        refine e_acmp_ne 47 none (some (Y.1 (9 + t))) dX0_leadsTo_40 (by decide) rfl rfl (fun _ => ?_) (fun h => absurd h (fun z => by cases z))
        refine e_ic (nI 0) dX0_leadsTo_47 (by decide) ?_
        exact e_retI dX0_leadsTo_48 rfl rfl (bI_f (decide_eq_false (fun z => by rw [z] at hc; exact absurd hc (nI_pos (by omega))))) rfl
  refine e_lvs (lv' := [(0, .ref (Y.1 0)), (1, .int (nI h)), (2, .ref (Y.1 (9 + t)))]) rfl ?_
  refine e_aload_n 0 dX0_leadsTo_0 rfl ?_
  refine e_iload_n 1 dX0_leadsTo_1 rfl ?_
  refine e_callV (ci := 0) (st := []) (st1 := [.ref (Y.1 (9 + h))]) (As := [.int (nI h)]) (k_taskAt hq hh) dX0_leadsTo_2 (by decide) cm_X0_taskAt lk_X0_89 im_X0_taskAt rfl sel_X0_taskAt (hq.T 0 (by decide)) rfl rfl (Nat.le_of_ble_eq_true rfl) rfl ?_
  refine e_astore_n (lv' := [(3, .ref (Y.1 (9 + h))), (0, .ref (Y.1 0)), (1, .int (nI h)), (2, .ref (Y.1 (9 + t)))]) dX0_leadsTo_5 (by decide) rfl ?_
  refine e_ic (nI 0) dX0_leadsTo_6 (by decide) ?_
  refine e_istore (lv' := [(4, .int (nI 0)), (3, .ref (Y.1 (9 + h))), (0, .ref (Y.1 0)), (1, .int (nI h)), (2, .ref (Y.1 (9 + t)))]) dX0_leadsTo_7 (by decide) rfl ?_
  refine e_sub [0, 1, 2, 4] rfl ?_
  exact (L 200 0 (by omega)).1 h hh rfl

set_option maxRecDepth 100000 in
set_option maxHeartbeats 4000000 in
theorem k_keepRing (hq : KQ Z m Y ρ kf vf n) (hρ : 62000 ≤ ρ) {t : Nat} (ht : t < n) (hW : WF kf n) {h : Nat} (hh : h < n) (hC : chn kf t 200 (nI h) = nI t) : EvC G 1 uX0_keepRing [.ref (Y.1 0), .ref (Y.1 (9 + t)), .int (nI h)] m (fun r mm => r = none ∧ KQ Z mm Y ρ (rgP kf t (cnt kf t 200 (nI h)) (nI h) (cnt kf t 200 (nI h))) vf n) := by
  refine EvC.of (by decide +kernel) (Nat.le_of_ble_eq_true rfl) ?_
  have hn2 := hq.n2
  have ne : ∀ a, a < n → a ≠ t → Y.1 (9 + a) ≠ Y.1 (9 + t) := fun a ha q => hq.1.inj (by omega) (by omega) (by omega)
  have hb := cnt_b hW (by omega) h 200 hh hC
  have hi : ∀ j, j ≤ 200 → ∀ q, 217 ≤ q → rgP kf t j (nI h) j q = kf q := fun j hj q hq => rgP_hi _ _ _ _ hq _ hj
  have hWr : ∀ j, j ≤ 200 → WF (rgP kf t j (nI h) j) n := fun j hj => wf_congr hW (fun i hr => by
    rcases Nat.lt_or_ge i 4 with z | z
    · exact rgP_lo _ _ _ _ z _
    · exact rgP_hi _ _ _ _ (by unfold rel at hr; omega) _ hj)
  have hnx : ∀ j, j ≤ 200 → ∀ a, a < n → nxt (rgP kf t j (nI h) j) a = nxt kf a := fun j hj a ha => by
    unfold nxt kg
    rw [hi j hj (400 + 20 * a + 6) (by omega), hi j hj (400 + 20 * a + 7) (by omega), hi j hj (240 + _) (by omega)]
  have L : ∀ (f j a : Nat) (M : Mem), j + f = 200 → a < n → itr kf j (nI h) = nI a → chn kf t f (nI a) = nI t → j + cnt kf t f (nI a) = cnt kf t 200 (nI h) → KQ Z M Y ρ (rgP kf t j (nI h) j) vf n → EvR G 1 uX0_keepRing (zz m) (nn m) (fun r mm => r = none ∧ KQ Z mm Y ρ (rgP kf t (cnt kf t 200 (nI h)) (nI h) (cnt kf t 200 (nI h))) vf n) 34 [(4, .int (nI (j + 1))), (3, .ref (Y.1 (9 + a))), (0, .ref (Y.1 0)), (1, .ref (Y.1 (9 + t)))] [] M := by
    intro f
    induction f with
    | zero =>
      intro j a M hj ha hit hc hcn hI
      have : cnt kf t 0 (nI a) = 0 := rfl
      omega
    | succ f ih =>
      intro j a M hj ha hit hc hcn hI
      by_cases hat : a = t
      · subst hat
        have hz : cnt kf a (f + 1) (nI a) = 0 := by rw [cnt, if_neg (nI_pos (by omega)), if_pos rfl]
        have hjc : j = cnt kf a 200 (nI h) := by omega
        refine r_go (fun kk => e_iload 0 dX0_keepRing_34 rfl kk) ?_
        refine r_go (fun kk => e_sipush (v := nI 200) dX0_keepRing_36 (by decide) kk) ?_
        refine r_bl (fun ka kb => e_icmp_geN 82 dX0_keepRing_39 (by decide) (by omega) (by omega) ka kb) (fun h1 => ?_) (fun h1 => ?_)
        · skip
          have h1' := Nat.not_lt.mpr h1
          exact r_ret ⟨rfl, by rw [← hjc]; exact hI⟩ (e_retV dX0_keepRing_82 rfl rfl)
        · skip
          have h1' := Nat.not_le.mpr h1
          refine r_go (fun kk => e_aload_n 1 dX0_keepRing_42 rfl kk) ?_
          refine r_go (fun kk => e_ifnull dX0_keepRing_43 kk) ?_
          refine r_go (fun kk => e_aload_n 1 dX0_keepRing_46 rfl kk) ?_
          refine r_go (fun kk => e_aload_n 3 dX0_keepRing_47 rfl kk) ?_
          refine r_go (fun kk => e_acmp_eq 82 (some (Y.1 (9 + a))) (some (Y.1 (9 + a))) dX0_keepRing_48 (by decide) rfl rfl (fun _ => kk) (fun h => absurd h (not_not_intro rfl))) ?_
          exact r_ret ⟨rfl, by rw [← hjc]; exact hI⟩ (e_retV dX0_keepRing_82 rfl rfl)
      · have hna : ¬ nI a = nI t := fun z => hat ((nI_eq (by omega) (by omega)).mp z)
        rw [chn_s (by omega) hna] at hc
        have hz : cnt kf t (f + 1) (nI a) = cnt kf t f (nxt kf a) + 1 := by rw [cnt, if_neg (nI_pos (by omega)), if_neg hna, nI_clamp (by omega)]
        obtain ⟨a2, ha2, hx⟩ := (nxt_ok hW.ch ha).resolve_left (chn_nx (by omega) hc)
        rw [hx] at hc hz
        have hit2 : itr kf (j + 1) (nI h) = nI a2 := by rw [itr_s, hit, nI_clamp (by omega), hx]
        have h5 : rgP kf t j (nI h) j 5 = nI (j + 1) := rgP_5 _ _ _ _ _
        refine r_go (fun kk => e_iload 0 dX0_keepRing_34 rfl kk) ?_
        refine r_go (fun kk => e_sipush (v := nI 200) dX0_keepRing_36 (by decide) kk) ?_
        refine r_go (fun kk => e_icmp_geN 82 dX0_keepRing_39 (by decide) (by omega) (by omega) (fun h => absurd h (by omega)) (fun _ => kk)) ?_
        refine r_go (fun kk => e_aload_n 1 dX0_keepRing_42 rfl kk) ?_
        refine r_go (fun kk => e_ifnull dX0_keepRing_43 kk) ?_
        refine r_go (fun kk => e_aload_n 1 dX0_keepRing_46 rfl kk) ?_
        refine r_go (fun kk => e_aload_n 3 dX0_keepRing_47 rfl kk) ?_
        refine r_go (fun kk => e_acmp_eq 82 (some (Y.1 (9 + a))) (some (Y.1 (9 + t))) dX0_keepRing_48 (by decide) rfl rfl (fun h => absurd h (fun z => ne a ha hat (Option.some.inj z))) (fun _ => kk)) ?_
        refine r_go (fun kk => e_aload_n 2 dX0_keepRing_51 rfl kk) ?_
        refine r_go (fun kk => e_getP (some (Y.1 7)) dX0_keepRing_52 fl_X0_37 rfl (hI.T 0 (by decide)) (hI.1.2.2.1.2.2.2.2.2.1) kk) ?_
        refine r_go (fun kk => e_iload 0 dX0_keepRing_55 rfl kk) ?_
        refine r_go (fun kk => e_aload_n 1 dX0_keepRing_57 rfl kk) ?_
        refine r_go (fun kk => e_getIv (nI a) dX0_keepRing_58 fl_X0_108 rfl (hI.Tt (by omega)) (hI.gno (by omega)) kk) ?_
        refine r_go (fun kk => e_iastN _ dX0_keepRing_61 (hI.T 7 (by decide)) (by rw [hI.1.2.1.2.2.2.2.1]; omega) (by rw [hI.1.2.1.2.2.2.2.1]; decide) rfl kk) ?_
        refine r_gen (fun mm => KQ Z mm Y ρ (upd (rgP kf t j (nI h) j) (16 + (j + 1)) (nI a)) vf n ∧ aI mm (Y.1 7) (j + 1) = nI a) ⟨hI.ri hρ (by omega), u2_eq _ _ _ _⟩ (fun M2 hI2 => ?_)
        refine r_go (fun kk => e_aload_n 2 dX0_keepRing_62 rfl kk) ?_
        refine r_go (fun kk => e_iload 0 dX0_keepRing_63 rfl kk) ?_
        refine r_go (fun kk => e_ic (nI 1) dX0_keepRing_65 (by decide) kk) ?_
        refine r_go (fun kk => e_iaddN dX0_keepRing_66 kk) ?_
        refine r_go (fun kk => e_putI (ci := 0) (k := 10) dX0_keepRing_67 fl_X0_53 rfl (fun q h => by cases h; rfl) ⟨rfl, rfl⟩ (hI2.1.T 0 (by decide)) kk) ?_
        have hrs := hI2.1.rs hρ (c := j + 2) (by omega) (fun q hq2 => (Classical.em (q = j + 1)).elim (fun z => by rw [z, upd_eq]; exact hI2.2) (fun z => hI2.1.2.1.2.1.2.1 q (by omega) (by rw [upd_ne _ _ (by omega), h5]; exact nI_lt (by omega) (by omega))))
        rw [← hit, ← rgP_s] at hrs
        refine r_gen (fun mm => KQ Z mm Y ρ (rgP kf t (j + 1) (nI h) (j + 1)) vf n) hrs (fun M3 hI3 => ?_)
        refine r_go (fun kk => e_aload_n 2 dX0_keepRing_70 rfl kk) ?_
        refine r_go (fun kk => e_aload_n 1 dX0_keepRing_71 rfl kk) ?_
        refine r_go (fun kk => e_callV (ci := 0) (st := []) (st1 := [.ref (Y.1 (9 + a2))]) (As := [.ref (Y.1 (9 + a))]) (k_blockerOf hI3 ha (hWr (j + 1) (by omega)) ha2 (by rw [hnx (j + 1) (by omega) a ha]; exact hx)) dX0_keepRing_72 (by decide) cm_X0_blockerOf lk_X0_186 im_X0_blockerOf rfl sel_X0_blockerOf (hI3.T 0 (by decide)) rfl rfl (Nat.le_of_ble_eq_true rfl) rfl kk) ?_
        refine r_go (fun kk => e_astore_n (lv' := [(3, .ref (Y.1 (9 + a2))), (4, .int (nI (j + 1))), (0, .ref (Y.1 0)), (1, .ref (Y.1 (9 + t)))]) dX0_keepRing_75 (by decide) rfl kk) ?_
        refine r_go (fun kk => e_iinc1N (lv' := [(4, .int (nI ((j + 1) + 1))), (3, .ref (Y.1 (9 + a2))), (0, .ref (Y.1 0)), (1, .ref (Y.1 (9 + t)))]) 1 dX0_keepRing_76 rfl (by decide) rfl kk) ?_
        refine r_go (fun kk => e_goto 34 dX0_keepRing_79 (by decide) kk) ?_
        refine r_go (fun kk => e_sub [0, 1, 2, 3] rfl kk) ?_
        exact ih (j + 1) a2 M3 (by omega) ha2 hit2 hc (by omega) hI3
  refine r_go (fun kk => e_lvs (lv' := [(0, .ref (Y.1 0)), (1, .ref (Y.1 (9 + t))), (2, .int (nI h))]) rfl kk) ?_
  refine r_go (fun kk => e_aload_n 0 dX0_keepRing_0 rfl kk) ?_
  refine r_go (fun kk => e_dup dX0_keepRing_1 rfl kk) ?_
  refine r_go (fun kk => e_getIv (kf 4) dX0_keepRing_2 fl_X0_56 rfl (hq.T 0 (by decide)) hq.2.1.1.2.2.2.2.1 kk) ?_
  refine r_go (fun kk => e_ic (nI 1) dX0_keepRing_5 (by decide) kk) ?_
  refine r_go (fun kk => e_iadd dX0_keepRing_6 kk) ?_
  refine r_go (fun kk => e_putI (ci := 0) (k := 11) dX0_keepRing_7 fl_X0_56 rfl (fun q h => by cases h; rfl) ⟨rfl, rfl⟩ (hq.T 0 (by decide)) kk) ?_
  refine r_gen (fun mm => KQ Z mm Y ρ (upd kf 4 ((kf 4) + (nI 1))) vf n) (hq.k hρ (by omega)) (fun m1 hq1 => ?_)
  refine r_go (fun kk => e_aload_n 0 dX0_keepRing_10 rfl kk) ?_
  refine r_go (fun kk => e_getP (some (Y.1 7)) dX0_keepRing_11 fl_X0_37 rfl (hq1.T 0 (by decide)) (hq1.1.2.2.1.2.2.2.2.2.1) kk) ?_
  refine r_go (fun kk => e_ic (nI 0) dX0_keepRing_14 (by decide) kk) ?_
  refine r_go (fun kk => e_aload_n 1 dX0_keepRing_15 rfl kk) ?_
  refine r_go (fun kk => e_getIv (nI t) dX0_keepRing_16 fl_X0_108 rfl (hq1.Tt (by omega)) (hq1.gno (by omega)) kk) ?_
  refine r_go (fun kk => e_iastN _ dX0_keepRing_19 (hq1.T 7 (by decide)) (by rw [hq1.1.2.1.2.2.2.2.1]; omega) (by rw [hq1.1.2.1.2.2.2.2.1]; decide) rfl kk) ?_
  refine r_gen (fun mm => KQ Z mm Y ρ (upd (upd kf 4 ((kf 4) + (nI 1))) (16 + 0) (nI t)) vf n ∧ aI mm (Y.1 7) 0 = nI t) ⟨hq1.ri hρ (by omega), u2_eq _ _ _ _⟩ (fun M2 hI2 => ?_)
  refine r_go (fun kk => e_aload_n 0 dX0_keepRing_20 rfl kk) ?_
  refine r_go (fun kk => e_ic (nI 1) dX0_keepRing_21 (by decide) kk) ?_
  refine r_go (fun kk => e_putI (ci := 0) (k := 10) dX0_keepRing_22 fl_X0_53 rfl (fun q h => by cases h; rfl) ⟨rfl, rfl⟩ (hI2.1.T 0 (by decide)) kk) ?_
  have hrs := hI2.1.rs hρ (c := 1) (by omega) (fun q hq2 => by rw [show q = 0 by omega, upd_eq]; exact hI2.2)
  rw [upd_cm _ _ _ (show 16 + 0 ≠ 5 by omega)] at hrs
  refine r_gen (fun mm => KQ Z mm Y ρ (rgP kf t 0 (nI h) 0) vf n) hrs (fun M3 hI3 => ?_)
  refine r_go (fun kk => e_aload_n 0 dX0_keepRing_25 rfl kk) ?_
  refine r_go (fun kk => e_iload_n 2 dX0_keepRing_26 rfl kk) ?_
  refine r_go (fun kk => e_callV (ci := 0) (st := []) (st1 := [.ref (Y.1 (9 + h))]) (As := [.int (nI h)]) (k_taskAt hI3 hh) dX0_keepRing_27 (by decide) cm_X0_taskAt lk_X0_89 im_X0_taskAt rfl sel_X0_taskAt (hI3.T 0 (by decide)) rfl rfl (Nat.le_of_ble_eq_true rfl) rfl kk) ?_
  refine r_go (fun kk => e_astore_n (lv' := [(3, .ref (Y.1 (9 + h))), (0, .ref (Y.1 0)), (1, .ref (Y.1 (9 + t))), (2, .int (nI h))]) dX0_keepRing_30 (by decide) rfl kk) ?_
  refine r_go (fun kk => e_ic (nI 1) dX0_keepRing_31 (by decide) kk) ?_
  refine r_go (fun kk => e_istore (lv' := [(4, .int (nI 1)), (3, .ref (Y.1 (9 + h))), (0, .ref (Y.1 0)), (1, .ref (Y.1 (9 + t))), (2, .int (nI h))]) dX0_keepRing_32 (by decide) rfl kk) ?_
  refine r_go (fun kk => e_sub [0, 1, 2, 3] rfl kk) ?_
  exact L 200 0 h M3 (by omega) hh rfl hC (by omega) hI3

set_option maxRecDepth 100000 in
set_option maxHeartbeats 4000000 in
theorem k_take1 (hq : KQ Z m Y ρ kf vf n) (hρ : 62000 ≤ ρ) {t : Nat} (ht : t < n) (hW : WF kf n) (hH : ∀ l, l < 100 → kf (240 + l) = -2 ∨ kf (240 + l) = -1 ∨ ∃ i, i < n ∧ kf (240 + l) = nI i) (h8 : kg kf t 8 = -1) {j : Nat} (hj : j < 100) : EvC G 2 uX0_take [.ref (Y.1 0), .ref (Y.1 (9 + t)), .int (nI j)] m (fun r mm => r = some (.int (oc (tkF kf t (nI j)).1)) ∧ KQ Z mm Y ρ (tkF kf t (nI j)).2 vf n) := by
  refine EvC.of (by decide +kernel) (Nat.le_of_ble_eq_true rfl) ?_
  have hn2 := hq.n2
  refine r_go (fun kk => e_lvs (lv' := [(0, .ref (Y.1 0)), (1, .ref (Y.1 (9 + t))), (2, .int (nI j))]) rfl kk) ?_
  refine r_go (fun kk => e_aload_n 0 dX0_take_0 rfl kk) ?_
  refine r_go (fun kk => e_iload_n 2 dX0_take_1 rfl kk) ?_
  refine r_go (fun kk => e_callV (ci := 0) (st := []) (st1 := [.int (kf (240 + j))]) (As := [.int (nI j)]) (k_holderOf hq hj) dX0_take_2 (by decide) cm_X0_holderOf lk_X0_273 im_X0_holderOf rfl sel_X0_holderOf (hq.T 0 (by decide)) rfl rfl (Nat.le_of_ble_eq_true rfl) rfl kk) ?_
  refine r_go (fun kk => e_istore_n (lv' := [(3, .int (kf (240 + j))), (0, .ref (Y.1 0)), (1, .ref (Y.1 (9 + t))), (2, .int (nI j))]) dX0_take_5 (by decide) rfl kk) ?_
  refine r_go (fun kk => e_iload_n 0 dX0_take_6 rfl kk) ?_
  refine r_go (fun kk => e_bipush (v := (-2)) dX0_take_7 (by decide) kk) ?_
  refine r_b2 (fun ka kb => e_icmp_ne 15 dX0_take_9 (by decide) ka kb) (fun q1 => ?_) (fun q1 => ?_)
  · skip
    refine r_go (fun kk => e_iload_n 0 dX0_take_15 rfl kk) ?_
    refine r_go (fun kk => e_aload_n 2 dX0_take_16 rfl kk) ?_
    refine r_go (fun kk => e_getIv (nI t) dX0_take_17 fl_X0_108 rfl (hq.Tt (by omega)) (hq.gno (by omega)) kk) ?_
    refine r_b2 (fun ka kb => e_icmp_ne 26 dX0_take_20 (by decide) ka kb) (fun q2 => ?_) (fun q2 => ?_)
    · skip
      refine r_go (fun kk => e_iload_n 0 dX0_take_26 rfl kk) ?_
      refine r_go (fun kk => e_ic ((-1)) dX0_take_27 (by decide) kk) ?_
      refine r_b2 (fun ka kb => e_icmp_ne 43 dX0_take_28 (by decide) ka kb) (fun q3 => ?_) (fun q3 => ?_)
      · skip
        obtain ⟨i0, hi0, e0⟩ := ((hH j hj).resolve_left q1).resolve_left q3
        refine r_go (fun kk => e_lvs (lv' := [(3, .int (nI i0)), (0, .ref (Y.1 0)), (1, .ref (Y.1 (9 + t))), (2, .int (nI j))]) (by rw [e0]) kk) ?_
        refine r_go (fun kk => e_aload_n 1 dX0_take_43 rfl kk) ?_
        refine r_go (fun kk => e_iload_n 0 dX0_take_44 rfl kk) ?_
        refine r_go (fun kk => e_aload_n 2 dX0_take_45 rfl kk) ?_
        refine r_go (fun kk => e_callV (ci := 0) (st := []) (st1 := [.int (bI (decide (chn kf t 200 (nI i0) = nI t)))]) (As := [.int (nI i0), .ref (Y.1 (9 + t))]) (k_leadsTo hq ht hW hi0) dX0_take_46 (by decide) cm_X0_leadsTo lk_X0_276 im_X0_leadsTo rfl sel_X0_leadsTo (hq.T 0 (by decide)) rfl rfl (Nat.le_of_ble_eq_true rfl) rfl kk) ?_
        refine r_bb (fun ka kb => e_if_eqB 61 dX0_take_49 (by decide) ka kb) (fun q4 => ?_) (fun q4 => ?_)
        · skip
          refine r_go (fun kk => e_aload_n 1 dX0_take_61 rfl kk) ?_
          refine r_go (fun kk => e_aload_n 2 dX0_take_62 rfl kk) ?_
          refine r_go (fun kk => e_ic (nI 1) dX0_take_63 (by decide) kk) ?_
          obtain ⟨_, m1, ⟨rfl, hq1⟩, E1x64⟩ := k_beginWait (G := G) hq hρ (t := t) (by omega) (nI 1)
          refine r_go (fun kk => e_callV (ci := 0) (st := []) (st1 := []) (As := [.ref (Y.1 (9 + t)), .int (nI 1)]) (E1x64) dX0_take_64 (by decide) cm_X0_beginWait lk_X0_283 im_X0_beginWait rfl sel_X0_beginWait (hq.T 0 (by decide)) rfl rfl (Nat.le_of_ble_eq_true rfl) rfl kk) ?_
          refine r_go (fun kk => e_aload_n 2 dX0_take_67 rfl kk) ?_
          refine r_go (fun kk => e_iload_n 3 dX0_take_68 rfl kk) ?_
          refine r_go (fun kk => e_putI (ci := 4) (k := 9) dX0_take_69 fl_X0_115 rfl (fun q h => by cases h; rfl) ⟨rfl, rfl⟩ (hq1.Tt (by omega)) kk) ?_
          refine r_gen (fun mm => KQ Z mm Y ρ (ks (bwK kf t (nI 1)) t 7 (nI j)) vf n) (hq1.t hρ (by omega) (by decide) rfl) (fun m2 hq2 => ?_)
          refine r_go (fun kk => e_bipush (v := (-2)) dX0_take_72 (by decide) kk) ?_
          have e : inI (nI j) (nI 0) (nI 99) = true := inI_of (by omega) (by omega) (by decide)
          have q4 := of_decide_eq_false (show decide _ = false from q4)
          have c4 := (wf_end hW t i0 hi0).resolve_right q4
          exact r_ret ⟨by rw [tkF, nI_clamp (show j < 2 ^ 31 by omega), if_pos ⟨e, q1⟩, if_neg q2, e0, if_neg (nI_pos (by omega)), if_pos c4]; rfl, by rw [tkF, nI_clamp (show j < 2 ^ 31 by omega), if_pos ⟨e, q1⟩, if_neg q2, e0, if_neg (nI_pos (by omega)), if_pos c4, wts_a h8]; exact hq2⟩ (e_retI dX0_take_74 rfl rfl rfl)
        · skip
          refine r_go (fun kk => e_aload_n 1 dX0_take_52 rfl kk) ?_
          refine r_go (fun kk => e_aload_n 2 dX0_take_53 rfl kk) ?_
          refine r_go (fun kk => e_iload_n 0 dX0_take_54 rfl kk) ?_
          obtain ⟨_, m3, ⟨rfl, hq3⟩, E3x55⟩ := k_keepRing (G := G) hq hρ ht hW hi0 (of_decide_eq_true (show decide _ = true from q4))
          refine r_go (fun kk => e_callV (ci := 0) (st := []) (st1 := []) (As := [.ref (Y.1 (9 + t)), .int (nI i0)]) (E3x55) dX0_take_55 (by decide) cm_X0_keepRing lk_X0_280 im_X0_keepRing rfl sel_X0_keepRing (hq.T 0 (by decide)) rfl rfl (Nat.le_of_ble_eq_true rfl) rfl kk) ?_
          refine r_go (fun kk => e_bipush (v := nI 12) dX0_take_58 (by decide) kk) ?_
          have e : inI (nI j) (nI 0) (nI 99) = true := inI_of (by omega) (by omega) (by decide)
          have q4 := of_decide_eq_true (show decide _ = true from q4)
          have c4 : ¬ chn kf t 200 (nI i0) < 0 := by rw [q4]; exact nI_pos (by omega)
          exact r_ret ⟨by rw [tkF, nI_clamp (show j < 2 ^ 31 by omega), if_pos ⟨e, q1⟩, if_neg q2, e0, if_neg (nI_pos (by omega)), if_neg c4]; rfl, by rw [tkF, nI_clamp (show j < 2 ^ 31 by omega), if_pos ⟨e, q1⟩, if_neg q2, e0, if_neg (nI_pos (by omega)), if_neg c4]; exact hq3⟩ (e_retI dX0_take_60 rfl rfl rfl)
      · skip
        refine r_go (fun kk => e_aload_n 1 dX0_take_31 rfl kk) ?_
        refine r_go (fun kk => e_getP (some (Y.1 5)) dX0_take_32 fl_X0_30 rfl (hq.T 0 (by decide)) (hq.1.2.2.1.2.2.2.1) kk) ?_
        refine r_go (fun kk => e_iload_n 3 dX0_take_35 rfl kk) ?_
        refine r_go (fun kk => e_aload_n 2 dX0_take_36 rfl kk) ?_
        refine r_go (fun kk => e_getIv (nI t) dX0_take_37 fl_X0_108 rfl (hq.Tt (by omega)) (hq.gno (by omega)) kk) ?_
        refine r_go (fun kk => e_iastN _ dX0_take_40 (hq.T 5 (by decide)) (by rw [hq.1.2.1.2.2.1]; exact (by omega)) (by rw [hq.1.2.1.2.2.1]; decide) rfl kk) ?_
        refine r_gen (fun mm => KQ Z mm Y ρ (upd kf (240 + j) (nI t)) vf n) (hq.ho hρ (by omega)) (fun m4 hq4 => ?_)
        refine r_go (fun kk => e_ic ((-1)) dX0_take_41 (by decide) kk) ?_
        have e : inI (nI j) (nI 0) (nI 99) = true := inI_of (by omega) (by omega) (by decide)
        exact r_ret ⟨by rw [tkF, nI_clamp (show j < 2 ^ 31 by omega), if_pos ⟨e, q1⟩, if_neg q2, if_pos (by rw [q3]; decide)]; rfl, by rw [tkF, nI_clamp (show j < 2 ^ 31 by omega), if_pos ⟨e, q1⟩, if_neg q2, if_pos (by rw [q3]; decide)]; exact hq4⟩ (e_retI dX0_take_42 rfl rfl rfl)
    · skip
      refine r_go (fun kk => e_bipush (v := nI 11) dX0_take_23 (by decide) kk) ?_
      have e : inI (nI j) (nI 0) (nI 99) = true := inI_of (by omega) (by omega) (by decide)
      exact r_ret ⟨by rw [tkF, nI_clamp (show j < 2 ^ 31 by omega), if_pos ⟨e, q1⟩, if_pos q2]; rfl, by rw [tkF, nI_clamp (show j < 2 ^ 31 by omega), if_pos ⟨e, q1⟩, if_pos q2]; exact hq⟩ (e_retI dX0_take_25 rfl rfl rfl)
  · skip
    refine r_go (fun kk => e_bipush (v := nI 7) dX0_take_12 (by decide) kk) ?_
    have e : inI (nI j) (nI 0) (nI 99) = true := inI_of (by omega) (by omega) (by decide)
    exact r_ret ⟨by rw [tkF, if_neg (fun z => z.2 (by rw [nI_clamp (by omega)]; exact q1))]; rfl, by rw [tkF, if_neg (fun z => z.2 (by rw [nI_clamp (by omega)]; exact q1))]; exact hq⟩ (e_retI dX0_take_14 rfl rfl rfl)

set_option maxRecDepth 100000 in
set_option maxHeartbeats 4000000 in
theorem k_take2 (hq : KQ Z m Y ρ kf vf n) (hρ : 62000 ≤ ρ) {t : Nat} (ht : t < n) {x : Int32} (hx : inI x (nI 0) (nI 99) = false) : EvC G 2 uX0_take [.ref (Y.1 0), .ref (Y.1 (9 + t)), .int x] m (fun r mm => r = some (.int (oc (tkF kf t x).1)) ∧ KQ Z mm Y ρ (tkF kf t x).2 vf n) := by
  refine EvC.of (by decide +kernel) (Nat.le_of_ble_eq_true rfl) ?_
  have hn2 := hq.n2
  refine r_go (fun kk => e_lvs (lv' := [(0, .ref (Y.1 0)), (1, .ref (Y.1 (9 + t))), (2, .int x)]) rfl kk) ?_
  refine r_go (fun kk => e_aload_n 0 dX0_take_0 rfl kk) ?_
  refine r_go (fun kk => e_iload_n 2 dX0_take_1 rfl kk) ?_
  refine r_go (fun kk => e_callV (ci := 0) (st := []) (st1 := [.int (-2)]) (As := [.int x]) (k_holderOfN hq hx) dX0_take_2 (by decide) cm_X0_holderOf lk_X0_273 im_X0_holderOf rfl sel_X0_holderOf (hq.T 0 (by decide)) rfl rfl (Nat.le_of_ble_eq_true rfl) rfl kk) ?_
  refine r_go (fun kk => e_istore_n (lv' := [(3, .int (-2)), (0, .ref (Y.1 0)), (1, .ref (Y.1 (9 + t))), (2, .int x)]) dX0_take_5 (by decide) rfl kk) ?_
  refine r_go (fun kk => e_iload_n 0 dX0_take_6 rfl kk) ?_
  refine r_go (fun kk => e_bipush (v := (-2)) dX0_take_7 (by decide) kk) ?_
  refine r_go (fun kk => e_icmp_ne 15 dX0_take_9 (by decide) (fun h => absurd h (by decide)) (fun _ => kk)) ?_
  refine r_go (fun kk => e_bipush (v := nI 7) dX0_take_12 (by decide) kk) ?_
  exact r_ret ⟨by rw [tkF, if_neg (fun z => absurd z.1 (by rw [hx]; decide))]; rfl, by rw [tkF, if_neg (fun z => absurd z.1 (by rw [hx]; decide))]; exact hq⟩ (e_retI dX0_take_14 rfl rfl rfl)

theorem k_take (hq : KQ Z m Y ρ kf vf n) (hρ : 62000 ≤ ρ) {t : Nat} (ht : t < n) (hW : WF kf n) (hH : ∀ l, l < 100 → kf (240 + l) = -2 ∨ kf (240 + l) = -1 ∨ ∃ i, i < n ∧ kf (240 + l) = nI i) (h8 : kg kf t 8 = -1) (x : Int32) : EvC G 2 uX0_take [.ref (Y.1 0), .ref (Y.1 (9 + t)), .int x] m (fun r mm => r = some (.int (oc (tkF kf t x).1)) ∧ KQ Z mm Y ρ (tkF kf t x).2 vf n) := by
  cases h : inI x (nI 0) (nI 99)
  · exact k_take2 hq hρ ht h
  · obtain ⟨j, -, hj, rfl⟩ := inI_n (by decide) (by decide) h
    exact k_take1 hq hρ ht hW hH h8 (by omega)

end Class12
