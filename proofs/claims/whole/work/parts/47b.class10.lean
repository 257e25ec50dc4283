/-! the class: standings -/
theorem cB_pos {p : Nat → Bool} {n h : Nat} (hh : h < n) (hp : p h = true) : 0 < cB p n := Nat.lt_of_le_of_lt (Nat.zero_le _) (cB_lt (p := fun _ => false) (q := p) n (fun _ _ q => absurd q (by decide)) h hh hp rfl)
theorem cB_le (p : Nat → Bool) (n : Nat) : cB p n ≤ n := by
  have := cB_mono (p := p) (q := fun _ => true) n (fun _ _ _ => rfl)
  rw [cB_all] at this
  exact this
theorem ok_c {kf : KF} {n c h : Nat} {σ : Nat → Int64} (hn : n ≤ 200) (hh : h < n) (e : nxt kf c = nI h) (hs : σ h ≤ σ c) : Ok kf n σ c := fun a ha ea => by
  rw [e] at ea
  have : h = a := (nI_eq (by omega) (by omega)).mp ea
  exact this ▸ hs
theorem ok_n {kf : KF} {n c : Nat} {σ : Nat → Int64} (hn : n ≤ 200) (e : nxt kf c < 0) : Ok kf n σ c := fun a ha ea => by
  rw [ea] at e
  exact absurd e (nI_pos (by omega))
section Class10
variable {G : GG} {Z : Mem × YY} {m : Mem} {Y : YY} {ρ n : Nat} {kf : KF} {vf : VF}
theorem KQ.sσ (h : KQ Z m Y ρ kf vf n) {σ : Nat → Int64} (hσ : ∀ t, t < n → gL m 98 (Y.1 (9 + t)) = σ t) {t : Nat} (ht : t < n) (y : Int64) : ∀ s, s < n → gL (sL m 98 (Y.1 (9 + t)) y) 98 (Y.1 (9 + s)) = vp_updL σ t y s := fun s hs => by
  have hn := h.n2
  by_cases e : s = t
  · subst e
    refine (u2_eq (gL m) 98 (Y.1 (9 + s)) y).trans ?_
    simp [vp_updL]
  · refine (u2_na (gL m) (f := 98) (f' := 98) y (h.1.inj (r := 9 + s) (s := 9 + t) (by omega) (by omega) (by omega))).trans ?_
    rw [hσ s hs]
    simp [vp_updL, e]

set_option maxRecDepth 100000 in
set_option maxHeartbeats 4000000 in
theorem k_settle (hq : KQ Z m Y ρ kf vf n) (hW : WF kf n) (hR : RH kf vf n) : EvC G 1 uX0_settle [.ref (Y.1 0)] m (fun r mm => r = none ∧ KQ Z mm Y ρ kf vf n ∧ ∀ t, t < n → gL mm 98 (Y.1 (9 + t)) = rkA kf vf (stnd kf vf t)) := by
  refine EvC.of (by decide +kernel) (Nat.le_of_ble_eq_true rfl) ?_
  have hn2 := hq.n2
  have L2 : ∀ (k i : Nat) (M : Mem) (σ : Nat → Int64), i + k = n → KQ Z M Y ρ kf vf n ∧ (∀ t, t < n → gL M 98 (Y.1 (9 + t)) = σ t) ∧ Rz kf vf n σ ∧ (∀ j, j < i → Ok kf n σ j) → EvR G 1 uX0_settle (zz m) (nn m) (fun r mm => r = none ∧ KQ Z mm Y ρ kf vf n ∧ ∀ t, t < n → gL mm 98 (Y.1 (9 + t)) = rkA kf vf (stnd kf vf t)) 36 [(1, .int (nI i)), (0, .ref (Y.1 0))] [] M := by
    intro k
    induction k with
    | zero =>
      intro i M σ hi hI
      refine r_go (fun kk => e_iload_n 0 dX0_settle_36 rfl kk) ?_
      refine r_go (fun kk => e_aload_n 1 dX0_settle_37 rfl kk) ?_
      refine r_go (fun kk => e_getIv (nI n) dX0_settle_38 fl_X0_43 rfl (hI.1.T 0 (by decide)) hI.1.n7 kk) ?_
      refine r_go (fun kk => e_icmp_geN 118 dX0_settle_41 (by decide) (by omega) (by omega) (fun _ => kk) (fun h => absurd h (by omega))) ?_
      exact r_ret ⟨rfl, hI.1, fun t ht => by rw [hI.2.1 t ht]; exact st_end hW hR hI.2.2.1 (fun j hj => hI.2.2.2 j (by omega)) ht⟩ (e_retV dX0_settle_118 rfl rfl)
    | succ k ih =>
      intro i M σ hi hI
      have hin : i < n := by omega
      have L3 : ∀ (f k3 c h : Nat) (M : Mem) (τ : Nat → Int64), k3 + f = 200 → c < n → h < n → nxt kf c = nI h → KQ Z M Y ρ kf vf n ∧ (∀ t, t < n → gL M 98 (Y.1 (9 + t)) = τ t) ∧ Rz kf vf n τ ∧ (∀ j, j < i + 1 → j ≠ c → Ok kf n τ j) ∧ τ c = σ i ∧ cB (fun y => decide (σ i < τ y)) n ≤ f → EvR G 1 uX0_settle (zz m) (nn m) (fun r mm => r = none ∧ KQ Z mm Y ρ kf vf n ∧ ∀ t, t < n → gL mm 98 (Y.1 (9 + t)) = rkA kf vf (stnd kf vf t)) 69 [(5, .int (nI k3)), (4, .ref (Y.1 (9 + h))), (2, .long (σ i)), (1, .int (nI i)), (0, .ref (Y.1 0))] [] M := by
        intro f
        induction f with
        | zero =>
          intro k3 c h M τ hk hc hh hx hJ
          have hle : τ h ≤ τ c := by
            rw [hJ.2.2.2.2.1]
            refine Int64.not_lt.mp (fun q => ?_)
            have := cB_pos (p := fun y => decide (σ i < τ y)) hh (decide_eq_true q)
            have := hJ.2.2.2.2.2
            omega
          refine r_go (fun kk => e_iload 0 dX0_settle_69 rfl kk) ?_
          refine r_go (fun kk => e_sipush (v := nI 200) dX0_settle_71 (by decide) kk) ?_
          refine r_go (fun kk => e_icmp_geN 112 dX0_settle_74 (by decide) (by omega) (by omega) (fun _ => kk) (fun h => absurd h (by omega))) ?_
          refine r_go (fun kk => e_iinc1N (lv' := [(1, .int (nI (i + 1))), (5, .int (nI k3)), (4, .ref (Y.1 (9 + h))), (2, .long (σ i)), (0, .ref (Y.1 0))]) 3 dX0_settle_112 rfl (by decide) rfl kk) ?_
          refine r_go (fun kk => e_goto 36 dX0_settle_115 (by decide) kk) ?_
          refine r_go (fun kk => e_sub [0, 4] rfl kk) ?_
          exact ih (i + 1) M τ (by omega) ⟨hJ.1, hJ.2.1, hJ.2.2.1, fun j hj => (Classical.em (j = c)).elim (fun e => by rw [e]; exact ok_c hn2 hh hx hle) (fun e => hJ.2.2.2.1 j hj e)⟩
        | succ f ih3 =>
          intro k3 c h M τ hk hc hh hx hJ
          refine r_go (fun kk => e_iload 0 dX0_settle_69 rfl kk) ?_
          refine r_go (fun kk => e_sipush (v := nI 200) dX0_settle_71 (by decide) kk) ?_
          refine r_go (fun kk => e_icmp_geN 112 dX0_settle_74 (by decide) (by omega) (by omega) (fun h => absurd h (by omega)) (fun _ => kk)) ?_
          refine r_go (fun kk => e_aload 1 dX0_settle_77 rfl kk) ?_
          refine r_go (fun kk => e_ifnull dX0_settle_79 kk) ?_
          refine r_go (fun kk => e_aload 1 dX0_settle_82 rfl kk) ?_
          refine r_go (fun kk => e_getLv (τ h) dX0_settle_84 fl_X0_168 rfl (hJ.1.Tt (by omega)) (hJ.2.1 h (by omega)) kk) ?_
          refine r_go (fun kk => e_lload_n 2 dX0_settle_87 rfl kk) ?_
          refine r_go (fun kk => e_lcmp dX0_settle_88 kk) ?_
          refine r_b1 (fun ka kb => e_lc_le 112 dX0_settle_89 (by decide) ka kb) (fun q1 => ?_) (fun q1 => ?_)
          · skip
            have q1' := Int64.not_lt.mpr q1
            refine r_go (fun kk => e_iinc1N (lv' := [(1, .int (nI (i + 1))), (5, .int (nI k3)), (4, .ref (Y.1 (9 + h))), (2, .long (σ i)), (0, .ref (Y.1 0))]) 3 dX0_settle_112 rfl (by decide) rfl kk) ?_
            refine r_go (fun kk => e_goto 36 dX0_settle_115 (by decide) kk) ?_
            refine r_go (fun kk => e_sub [0, 4] rfl kk) ?_
            exact ih (i + 1) M τ (by omega) ⟨hJ.1, hJ.2.1, hJ.2.2.1, fun j hj => (Classical.em (j = c)).elim (fun e => by rw [e]; exact ok_c hn2 hh hx (by rw [hJ.2.2.2.2.1]; exact q1)) (fun e => hJ.2.2.2.1 j hj e)⟩
          · skip
            have q1' := Int64.not_le.mp q1
            refine r_go (fun kk => e_aload 1 dX0_settle_92 rfl kk) ?_
            refine r_go (fun kk => e_lload_n 2 dX0_settle_94 rfl kk) ?_
            refine r_go (fun kk => e_putL (ci := 4) (k := 18) dX0_settle_95 fl_X0_168 rfl (fun q h => by cases h; rfl) ⟨rfl, rfl⟩ (hJ.1.Tt (by omega)) kk) ?_
            have hgt : τ c < τ h := by rw [hJ.2.2.2.2.1]; exact q1'
            obtain ⟨u1, u2, u3, u4⟩ := st_up hW hc hh hJ.2.2.1 hJ.2.2.2.1 hx hgt
            rw [hJ.2.2.2.2.1] at u1 u2 u3 u4
            have hcb : cB (fun y => decide (σ i < vp_updL τ h (σ i) y)) n ≤ f := by
              have := cB_lt (p := fun y => decide (σ i < vp_updL τ h (σ i) y)) (q := fun y => decide (σ i < τ y)) n (fun y hy q => by
                by_cases e : y = h
                · subst e
                  rw [u3] at q
                  exact absurd (of_decide_eq_true q) Int64.lt_irrefl
                · simpa [vp_updL, e] using q) h hh (decide_eq_true q1') (by rw [u3]; exact decide_eq_false Int64.lt_irrefl)
              have := hJ.2.2.2.2.2
              omega
            refine r_gen (fun mm => KQ Z mm Y ρ kf vf n ∧ (∀ t, t < n → gL mm 98 (Y.1 (9 + t)) = (vp_updL τ h (σ i)) t) ∧ Rz kf vf n (vp_updL τ h (σ i)) ∧ (∀ j, j < i + 1 → j ≠ h → Ok kf n (vp_updL τ h (σ i)) j) ∧ (vp_updL τ h (σ i)) h = σ i ∧ cB (fun y => decide (σ i < (vp_updL τ h (σ i)) y)) n ≤ f) ⟨hJ.1.s (by omega), hJ.1.sσ hJ.2.1 hh (σ i), u1, u2, u3, hcb⟩ (fun M2 hJ2 => ?_)
            generalize vp_updL τ h (σ i) = τ2 at hJ2
            rcases nxt_ok hW.ch hh with hx2 | ⟨h2, hh2, hx2⟩
            · skip
              refine r_go (fun kk => e_aload_n 4 dX0_settle_98 rfl kk) ?_
              refine r_go (fun kk => e_aload 1 dX0_settle_99 rfl kk) ?_
              refine r_go (fun kk => e_callV (ci := 0) (st := []) (st1 := [.null]) (As := [.ref (Y.1 (9 + h))]) (k_blockerOfN hJ2.1 (by omega) hW hx2) dX0_settle_101 (by decide) cm_X0_blockerOf lk_X0_186 im_X0_blockerOf rfl sel_X0_blockerOf (hJ2.1.T 0 (by decide)) rfl rfl (Nat.le_of_ble_eq_true rfl) rfl kk) ?_
              refine r_go (fun kk => e_astoreN (lv' := [(4, .null), (5, .int (nI k3)), (2, .long (σ i)), (1, .int (nI i)), (0, .ref (Y.1 0))]) dX0_settle_104 (by decide) rfl kk) ?_
              refine r_go (fun kk => e_iinc1N (lv' := [(5, .int (nI (k3 + 1))), (4, .null), (2, .long (σ i)), (1, .int (nI i)), (0, .ref (Y.1 0))]) 1 dX0_settle_106 rfl (by decide) rfl kk) ?_
              refine r_go (fun kk => e_goto 69 dX0_settle_109 (by decide) kk) ?_
              refine r_go (fun kk => e_iload 0 dX0_settle_69 rfl kk) ?_
              refine r_go (fun kk => e_sipush (v := nI 200) dX0_settle_71 (by decide) kk) ?_
              refine r_bl (fun ka kb => e_icmp_geN 112 dX0_settle_74 (by decide) (by omega) (by omega) ka kb) (fun h1 => ?_) (fun h1 => ?_)
              · skip
                have h1' := Nat.not_lt.mpr h1
                refine r_go (fun kk => e_iinc1N (lv' := [(1, .int (nI (i + 1))), (5, .int (nI (k3 + 1))), (4, .null), (2, .long (σ i)), (0, .ref (Y.1 0))]) 3 dX0_settle_112 rfl (by decide) rfl kk) ?_
                refine r_go (fun kk => e_goto 36 dX0_settle_115 (by decide) kk) ?_
                refine r_go (fun kk => e_sub [0, 4] rfl kk) ?_
                exact ih (i + 1) M2 τ2 (by omega) ⟨hJ2.1, hJ2.2.1, hJ2.2.2.1, fun j hj => (Classical.em (j = h)).elim (fun e => by rw [e]; exact ok_n hn2 hx2) (fun e => hJ2.2.2.2.1 j hj e)⟩
              · skip
                have h1' := Nat.not_le.mpr h1
                refine r_go (fun kk => e_aloadN 1 dX0_settle_77 rfl kk) ?_
                refine r_go (fun kk => e_ifnullN 112 dX0_settle_79 (by decide) kk) ?_
                refine r_go (fun kk => e_iinc1N (lv' := [(1, .int (nI (i + 1))), (5, .int (nI (k3 + 1))), (4, .null), (2, .long (σ i)), (0, .ref (Y.1 0))]) 3 dX0_settle_112 rfl (by decide) rfl kk) ?_
                refine r_go (fun kk => e_goto 36 dX0_settle_115 (by decide) kk) ?_
                refine r_go (fun kk => e_sub [0, 4] rfl kk) ?_
                exact ih (i + 1) M2 τ2 (by omega) ⟨hJ2.1, hJ2.2.1, hJ2.2.2.1, fun j hj => (Classical.em (j = h)).elim (fun e => by rw [e]; exact ok_n hn2 hx2) (fun e => hJ2.2.2.2.1 j hj e)⟩
            · skip
              refine r_go (fun kk => e_aload_n 4 dX0_settle_98 rfl kk) ?_
              refine r_go (fun kk => e_aload 1 dX0_settle_99 rfl kk) ?_
              refine r_go (fun kk => e_callV (ci := 0) (st := []) (st1 := [.ref (Y.1 (9 + h2))]) (As := [.ref (Y.1 (9 + h))]) (k_blockerOf hJ2.1 (by omega) hW hh2 hx2) dX0_settle_101 (by decide) cm_X0_blockerOf lk_X0_186 im_X0_blockerOf rfl sel_X0_blockerOf (hJ2.1.T 0 (by decide)) rfl rfl (Nat.le_of_ble_eq_true rfl) rfl kk) ?_
              refine r_go (fun kk => e_astore (lv' := [(4, .ref (Y.1 (9 + h2))), (5, .int (nI k3)), (2, .long (σ i)), (1, .int (nI i)), (0, .ref (Y.1 0))]) dX0_settle_104 (by decide) rfl kk) ?_
              refine r_go (fun kk => e_iinc1N (lv' := [(5, .int (nI (k3 + 1))), (4, .ref (Y.1 (9 + h2))), (2, .long (σ i)), (1, .int (nI i)), (0, .ref (Y.1 0))]) 1 dX0_settle_106 rfl (by decide) rfl kk) ?_
              refine r_go (fun kk => e_goto 69 dX0_settle_109 (by decide) kk) ?_
              refine r_go (fun kk => e_sub [0, 1, 2, 3, 4] rfl kk) ?_
              exact ih3 (k3 + 1) h h2 M2 τ2 (by omega) hh hh2 hx2 hJ2
      refine r_go (fun kk => e_iload_n 0 dX0_settle_36 rfl kk) ?_
      refine r_go (fun kk => e_aload_n 1 dX0_settle_37 rfl kk) ?_
      refine r_go (fun kk => e_getIv (nI n) dX0_settle_38 fl_X0_43 rfl (hI.1.T 0 (by decide)) hI.1.n7 kk) ?_
      refine r_go (fun kk => e_icmp_geN 118 dX0_settle_41 (by decide) (by omega) (by omega) (fun h => absurd h (by omega)) (fun _ => kk)) ?_
      refine r_go (fun kk => e_aload_n 1 dX0_settle_44 rfl kk) ?_
      refine r_go (fun kk => e_getP (some (Y.1 1)) dX0_settle_45 fl_X0_11 rfl (hI.1.T 0 (by decide)) (hI.1.1.2.2.1.1) kk) ?_
      refine r_go (fun kk => e_iload_n 0 dX0_settle_48 rfl kk) ?_
      refine r_go (fun kk => e_aaldN (some (Y.1 (9 + i))) dX0_settle_49 (hI.1.T 1 (by decide)) (Or.inr rfl) (by rw [hI.1.1.2.1.1]; exact (by omega)) (by rw [hI.1.1.2.1.1]; decide) (hI.1.pt (by omega)) kk) ?_
      refine r_go (fun kk => e_getLv (σ i) dX0_settle_50 fl_X0_168 rfl (hI.1.Tt (by omega)) (hI.2.1 i (by omega)) kk) ?_
      refine r_go (fun kk => e_lstore_n (lv' := [(2, .long (σ i)), (1, .int (nI i)), (0, .ref (Y.1 0))]) dX0_settle_53 (by decide) rfl kk) ?_
      rcases nxt_ok hW.ch hin with hx2 | ⟨h2, hh2, hx2⟩
      · skip
        refine r_go (fun kk => e_aload_n 2 dX0_settle_54 rfl kk) ?_
        refine r_go (fun kk => e_aload_n 2 dX0_settle_55 rfl kk) ?_
        refine r_go (fun kk => e_getP (some (Y.1 1)) dX0_settle_56 fl_X0_11 rfl (hI.1.T 0 (by decide)) (hI.1.1.2.2.1.1) kk) ?_
        refine r_go (fun kk => e_iload_n 1 dX0_settle_59 rfl kk) ?_
        refine r_go (fun kk => e_aaldN (some (Y.1 (9 + i))) dX0_settle_60 (hI.1.T 1 (by decide)) (Or.inr rfl) (by rw [hI.1.1.2.1.1]; exact (by omega)) (by rw [hI.1.1.2.1.1]; decide) (hI.1.pt (by omega)) kk) ?_
        refine r_go (fun kk => e_callV (ci := 0) (st := []) (st1 := [.null]) (As := [.ref (Y.1 (9 + i))]) (k_blockerOfN hI.1 (by omega) hW hx2) dX0_settle_61 (by decide) cm_X0_blockerOf lk_X0_186 im_X0_blockerOf rfl sel_X0_blockerOf (hI.1.T 0 (by decide)) rfl rfl (Nat.le_of_ble_eq_true rfl) rfl kk) ?_
        refine r_go (fun kk => e_astoreN (lv' := [(4, .null), (2, .long (σ i)), (1, .int (nI i)), (0, .ref (Y.1 0))]) dX0_settle_64 (by decide) rfl kk) ?_
        refine r_go (fun kk => e_ic (nI 0) dX0_settle_66 (by decide) kk) ?_
        refine r_go (fun kk => e_istore (lv' := [(5, .int (nI 0)), (4, .null), (2, .long (σ i)), (1, .int (nI i)), (0, .ref (Y.1 0))]) dX0_settle_67 (by decide) rfl kk) ?_
        refine r_go (fun kk => e_iload 0 dX0_settle_69 rfl kk) ?_
        refine r_go (fun kk => e_sipush (v := nI 200) dX0_settle_71 (by decide) kk) ?_
        refine r_go (fun kk => e_icmp_geN 112 dX0_settle_74 (by decide) (by omega) (by omega) (fun h => absurd h (by omega)) (fun _ => kk)) ?_
        refine r_go (fun kk => e_aloadN 1 dX0_settle_77 rfl kk) ?_
        refine r_go (fun kk => e_ifnullN 112 dX0_settle_79 (by decide) kk) ?_
        refine r_go (fun kk => e_iinc1N (lv' := [(1, .int (nI (i + 1))), (5, .int (nI 0)), (4, .null), (2, .long (σ i)), (0, .ref (Y.1 0))]) 3 dX0_settle_112 rfl (by decide) rfl kk) ?_
        refine r_go (fun kk => e_goto 36 dX0_settle_115 (by decide) kk) ?_
        refine r_go (fun kk => e_sub [0, 4] rfl kk) ?_
        exact ih (i + 1) M σ (by omega) ⟨hI.1, hI.2.1, hI.2.2.1, fun j hj => (Classical.em (j = i)).elim (fun e => by rw [e]; exact ok_n hn2 hx2) (fun e => hI.2.2.2 j (by omega))⟩
      · skip
        refine r_go (fun kk => e_aload_n 2 dX0_settle_54 rfl kk) ?_
        refine r_go (fun kk => e_aload_n 2 dX0_settle_55 rfl kk) ?_
        refine r_go (fun kk => e_getP (some (Y.1 1)) dX0_settle_56 fl_X0_11 rfl (hI.1.T 0 (by decide)) (hI.1.1.2.2.1.1) kk) ?_
        refine r_go (fun kk => e_iload_n 1 dX0_settle_59 rfl kk) ?_
        refine r_go (fun kk => e_aaldN (some (Y.1 (9 + i))) dX0_settle_60 (hI.1.T 1 (by decide)) (Or.inr rfl) (by rw [hI.1.1.2.1.1]; exact (by omega)) (by rw [hI.1.1.2.1.1]; decide) (hI.1.pt (by omega)) kk) ?_
        refine r_go (fun kk => e_callV (ci := 0) (st := []) (st1 := [.ref (Y.1 (9 + h2))]) (As := [.ref (Y.1 (9 + i))]) (k_blockerOf hI.1 (by omega) hW hh2 hx2) dX0_settle_61 (by decide) cm_X0_blockerOf lk_X0_186 im_X0_blockerOf rfl sel_X0_blockerOf (hI.1.T 0 (by decide)) rfl rfl (Nat.le_of_ble_eq_true rfl) rfl kk) ?_
        refine r_go (fun kk => e_astore (lv' := [(4, .ref (Y.1 (9 + h2))), (2, .long (σ i)), (1, .int (nI i)), (0, .ref (Y.1 0))]) dX0_settle_64 (by decide) rfl kk) ?_
        refine r_go (fun kk => e_ic (nI 0) dX0_settle_66 (by decide) kk) ?_
        refine r_go (fun kk => e_istore (lv' := [(5, .int (nI 0)), (4, .ref (Y.1 (9 + h2))), (2, .long (σ i)), (1, .int (nI i)), (0, .ref (Y.1 0))]) dX0_settle_67 (by decide) rfl kk) ?_
        refine r_go (fun kk => e_sub [0, 1, 2, 3, 4] rfl kk) ?_
        exact L3 200 0 i h2 M σ (by omega) hin hh2 hx2 ⟨hI.1, hI.2.1, hI.2.2.1, fun j hj e => hI.2.2.2 j (by omega), rfl, by have := cB_le (fun y => decide (σ i < σ y)) n; omega⟩
  have L1 : ∀ (k i : Nat) (M : Mem), i + k = n → KQ Z M Y ρ kf vf n ∧ (∀ t, t < i → gL M 98 (Y.1 (9 + t)) = rkA kf vf t) → EvR G 1 uX0_settle (zz m) (nn m) (fun r mm => r = none ∧ KQ Z mm Y ρ kf vf n ∧ ∀ t, t < n → gL mm 98 (Y.1 (9 + t)) = rkA kf vf (stnd kf vf t)) 2 [(1, .int (nI i)), (0, .ref (Y.1 0))] [] M := by
    intro k
    induction k with
    | zero =>
      intro i M hi hI
      refine r_go (fun kk => e_iload_n 0 dX0_settle_2 rfl kk) ?_
      refine r_go (fun kk => e_aload_n 1 dX0_settle_3 rfl kk) ?_
      refine r_go (fun kk => e_getIv (nI n) dX0_settle_4 fl_X0_43 rfl (hI.1.T 0 (by decide)) hI.1.n7 kk) ?_
      refine r_go (fun kk => e_icmp_geN 34 dX0_settle_7 (by decide) (by omega) (by omega) (fun _ => kk) (fun h => absurd h (by omega))) ?_
      refine r_go (fun kk => e_ic (nI 0) dX0_settle_34 (by decide) kk) ?_
      refine r_go (fun kk => e_istore_n (lv' := [(1, .int (nI 0)), (0, .ref (Y.1 0))]) dX0_settle_35 (by decide) rfl kk) ?_
      refine r_go (fun kk => e_sub [0, 1] rfl kk) ?_
      exact L2 n 0 M (rkA kf vf) (by omega) ⟨hI.1, fun t ht => hI.2 t (by omega), fun t ht => ⟨Int64.le_refl _, t, ht, Up.rf kf t, rfl⟩, fun j hj => absurd hj (Nat.not_lt_zero _)⟩
    | succ k ih =>
      intro i M hi hI
      refine r_go (fun kk => e_iload_n 0 dX0_settle_2 rfl kk) ?_
      refine r_go (fun kk => e_aload_n 1 dX0_settle_3 rfl kk) ?_
      refine r_go (fun kk => e_getIv (nI n) dX0_settle_4 fl_X0_43 rfl (hI.1.T 0 (by decide)) hI.1.n7 kk) ?_
      refine r_go (fun kk => e_icmp_geN 34 dX0_settle_7 (by decide) (by omega) (by omega) (fun h => absurd h (by omega)) (fun _ => kk)) ?_
      refine r_go (fun kk => e_aload_n 1 dX0_settle_10 rfl kk) ?_
      refine r_go (fun kk => e_getP (some (Y.1 1)) dX0_settle_11 fl_X0_11 rfl (hI.1.T 0 (by decide)) (hI.1.1.2.2.1.1) kk) ?_
      refine r_go (fun kk => e_iload_n 0 dX0_settle_14 rfl kk) ?_
      refine r_go (fun kk => e_aaldN (some (Y.1 (9 + i))) dX0_settle_15 (hI.1.T 1 (by decide)) (Or.inr rfl) (by rw [hI.1.1.2.1.1]; exact (by omega)) (by rw [hI.1.1.2.1.1]; decide) (hI.1.pt (by omega)) kk) ?_
      refine r_go (fun kk => e_aload_n 1 dX0_settle_16 rfl kk) ?_
      refine r_go (fun kk => e_getP (some (Y.1 1)) dX0_settle_17 fl_X0_11 rfl (hI.1.T 0 (by decide)) (hI.1.1.2.2.1.1) kk) ?_
      refine r_go (fun kk => e_iload_n 0 dX0_settle_20 rfl kk) ?_
      refine r_go (fun kk => e_aaldN (some (Y.1 (9 + i))) dX0_settle_21 (hI.1.T 1 (by decide)) (Or.inr rfl) (by rw [hI.1.1.2.1.1]; exact (by omega)) (by rw [hI.1.1.2.1.1]; decide) (hI.1.pt (by omega)) kk) ?_
      refine r_go (fun kk => e_callV (ci := 4) (st := [.ref (Y.1 (9 + i))]) (st1 := [.long (rkA kf vf i), .ref (Y.1 (9 + i))]) (As := []) (k_rank hI.1 (by omega)) dX0_settle_22 (by decide) cm_X4_rank lk_X0_183 im_X4_rank rfl sel_X4_rank (hI.1.Tt (by omega)) rfl rfl (Nat.le_of_ble_eq_true rfl) rfl kk) ?_
      refine r_go (fun kk => e_putL (ci := 4) (k := 18) dX0_settle_25 fl_X0_168 rfl (fun q h => by cases h; rfl) ⟨rfl, rfl⟩ (hI.1.Tt (by omega)) kk) ?_
      refine r_gen (fun mm => KQ Z mm Y ρ kf vf n ∧ (∀ t, t < i + 1 → gL mm 98 (Y.1 (9 + t)) = rkA kf vf t)) ⟨hI.1.s (by omega), fun t ht => ?_⟩ (fun M2 hI2 => ?_)
      · by_cases e : t = i
        · subst e
          exact u2_eq (gL M) 98 (Y.1 (9 + t)) _
        · exact (u2_na (gL M) (f := 98) (f' := 98) _ (hI.1.1.inj (r := 9 + t) (s := 9 + i) (by omega) (by omega) (by omega))).trans (hI.2 t (by omega))
      refine r_go (fun kk => e_iinc1N (lv' := [(1, .int (nI (i + 1))), (0, .ref (Y.1 0))]) 0 dX0_settle_28 rfl (by decide) rfl kk) ?_
      refine r_go (fun kk => e_goto 2 dX0_settle_31 (by decide) kk) ?_
      refine r_go (fun kk => e_sub [0, 1] rfl kk) ?_
      exact ih (i + 1) M2 (by omega) hI2
  refine r_go (fun kk => e_lvs (lv' := [(0, .ref (Y.1 0))]) rfl kk) ?_
  refine r_go (fun kk => e_ic (nI 0) dX0_settle_0 (by decide) kk) ?_
  refine r_go (fun kk => e_istore_n (lv' := [(1, .int (nI 0)), (0, .ref (Y.1 0))]) dX0_settle_1 (by decide) rfl kk) ?_
  refine r_go (fun kk => e_sub [0, 1] rfl kk) ?_
  exact L1 n 0 m (by omega) ⟨hq, fun t ht => absurd ht (Nat.not_lt_zero _)⟩

end Class10
