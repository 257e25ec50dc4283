/-! the class: locks go on -/
theorem lp_cg {σ : Type} {f g : Nat → σ → σ} {s : σ} : ∀ n, (∀ i, i < n → ∀ s, f i s = g i s) → lp f n s = lp g n s := by
  intro n
  induction n with
  | zero => intro _; rfl
  | succ n ih =>
    intro h
    show f n (lp f n s) = g n (lp g n s)
    rw [ih (fun i hi => h i (by omega)), h n (by omega)]
theorem ah_hold (kf : KF) (vf : VF) {l : Nat} (x : Int32) (hl : l < 100) (a b : Nat) : ahead (upd kf (240 + l) x) vf a b = ahead kf vf a b := by
  unfold ahead key c0 isDue
  rw [kg_hold _ _ _ hl, kg_hold _ _ _ hl, kg_hold _ _ _ hl, kg_hold _ _ _ hl, kg_hold _ _ _ hl, kg_hold _ _ _ hl]
section Hold
variable {kf : KF} {vf : VF} {n l t u : Nat}
theorem chn_hold (hW : WF kf n) (hl : l < 100) (ht : t < n) (ht6 : ¬ kg kf t 6 = 1) (h8 : kf (240 + l) = nI t) (hu : u < n) (hne : u ≠ t) : ∀ f w, w < n → (chn (upd kf (240 + l) (-1)) u f (nI w) = nI u ↔ chn kf u f (nI w) = nI u) := by
  have hn := hW.1.2
  have neg : ¬ (-1 : Int32) = nI u := fun e => by
    have := nI_pos' (n := u) (by omega)
    rw [← e] at this
    exact absurd this (by decide)
  intro f
  induction f with
  | zero => intro w hw; exact Iff.rfl
  | succ f ih =>
    intro w hw
    by_cases e : nI w = nI u
    · rw [chn, chn, if_neg (nI_pos (by omega)), if_neg (nI_pos (by omega)), if_pos e, if_pos e]
    · rw [chn_s (by omega) e, chn_s (by omega) e]
      by_cases h6 : kg kf w 6 = 1
      · obtain ⟨l', hl', e7, i, hi, e8⟩ := hW.2.1 w hw h6
        have n1 : nxt kf w = nI i := by rw [nxt, if_pos h6, e7, nI_clamp (by omega), e8]
        have n2 : nxt (upd kf (240 + l) (-1)) w = upd kf (240 + l) (-1) (240 + l') := by
          rw [nxt, kg_hold _ _ _ hl, kg_hold _ _ _ hl, if_pos h6, e7, nI_clamp (by omega)]
        rw [n1, n2]
        by_cases z : l' = l
        · subst z
          rw [upd_eq, chn_neg f (by decide)]
          have hit : i = t := (nI_eq (by omega) (by omega)).mp (e8.symm.trans h8)
          subst hit
          constructor
          · intro q
            exact absurd q neg
          · intro q
            have ne : ¬ nI i = nI u := fun y => hne ((nI_eq (by omega) (by omega)).mp y).symm
            cases f with
            | zero => exact absurd q ne
            | succ f =>
              rw [chn_s (by omega) ne, nxt, if_neg ht6, chn_neg f (by decide)] at q
              exact absurd q neg
        · rw [upd_ne _ _ (by omega), e8]
          exact ih i hi
      · have n1 : nxt kf w = -1 := by rw [nxt, if_neg h6]
        have n2 : nxt (upd kf (240 + l) (-1)) w = -1 := by rw [nxt, kg_hold _ _ _ hl, if_neg h6]
        rw [n1, n2, chn_neg f (by decide), chn_neg f (by decide)]
theorem stnd_hold (hW : WF kf n) (hl : l < 100) (ht : t < n) (ht6 : ¬ kg kf t 6 = 1) (h8 : kf (240 + l) = nI t) (hu : u < n) (hne : u ≠ t) : stnd (upd kf (240 + l) (-1)) vf u = stnd kf vf u := by
  have hnt : nT (upd kf (240 + l) (-1)) = n := nT_of (by rw [upd_ne _ _ (by omega)]; exact hW.1.1) hW.1.2
  unfold stnd
  rw [hnt, hW.nt]
  refine lp_cg n (fun i hi s => ?_)
  have e : rch (upd kf (240 + l) (-1)) u i = rch kf u i := by
    unfold rch
    rw [hnt, hW.nt]
    exact decide_eq_decide.mpr (chn_hold hW hl ht ht6 h8 hu hne _ i hi)
  rw [e, ah_hold _ _ _ hl]
end Hold
section Pick
variable {kf : KF} {vf : VF} {P : Nat → Bool} {i b : Nat}
theorem pick_s0 (h : P i = false) : pick kf vf P (i + 1) = pick kf vf P i := by
  show pkS kf vf P i (pick kf vf P i) = _
  unfold pkS
  rw [h, if_neg (by decide)]
theorem pick_s1 (h : P i = true) (hp : pick kf vf P i = none) : pick kf vf P (i + 1) = some i := by
  show pkS kf vf P i (pick kf vf P i) = _
  unfold pkS
  rw [h, if_pos rfl, hp]
theorem pick_s2 (h : P i = true) (hp : pick kf vf P i = some b) (ha : ahead kf vf (stnd kf vf i) (stnd kf vf b) = true) : pick kf vf P (i + 1) = some i := by
  show pkS kf vf P i (pick kf vf P i) = _
  unfold pkS
  rw [h, if_pos rfl, hp]
  dsimp only
  rw [ha, if_pos rfl]
theorem pick_s3 (h : P i = true) (hp : pick kf vf P i = some b) (ha : ahead kf vf (stnd kf vf i) (stnd kf vf b) = false) : pick kf vf P (i + 1) = some b := by
  show pkS kf vf P i (pick kf vf P i) = _
  unfold pkS
  rw [h, if_pos rfl, hp]
  dsimp only
  rw [ha, if_neg (by decide)]
end Pick
section Class11
variable {G : GG} {Z : Mem × YY} {m : Mem} {Y : YY} {ρ n : Nat} {kf : KF} {vf : VF}

set_option maxRecDepth 100000 in
set_option maxHeartbeats 4000000 in
theorem k_handOver (hq : KQ Z m Y ρ kf vf n) (hρ : 62000 ≤ ρ) (hW : WF kf n) (hR : RH kf vf n) {l t : Nat} (hl : l < 100) (ht : t < n) (ht6 : ¬ kg kf t 6 = 1) (h8 : kf (240 + l) = nI t) (hσ : ∀ t, t < n → gL m 98 (Y.1 (9 + t)) = rkA kf vf (stnd kf vf t)) : EvC G 1 uX0_handOver [.ref (Y.1 0), .int (nI l)] m (fun r mm => r = none ∧ KQ Z mm Y ρ (psF (upd kf (240 + l) (-1)) vf l) vf n) := by
  refine EvC.of (by decide +kernel) (Nat.le_of_ble_eq_true rfl) ?_
  have hn2 := hq.n2
  have hnt : nT (upd kf (240 + l) (-1)) = n := nT_of (by rw [upd_ne _ _ (by omega)]; exact hW.1.1) hn2
  have wt : ∀ i, wtP (upd kf (240 + l) (-1)) l i = true → kg kf i 6 = 1 := fun i h => by
    unfold wtP at h
    rw [kg_hold _ _ _ hl] at h
    simp at h
    exact h.1
  have wt1 : ∀ i, kg kf i 6 = 1 → kg kf i 7 = nI l → wtP (upd kf (240 + l) (-1)) l i = true := fun i h1 h2 => by
    unfold wtP
    rw [kg_hold _ _ _ hl, kg_hold _ _ _ hl, h1, h2]
    simp
  have wt0 : ∀ i, ¬ (kg kf i 6 = 1 ∧ kg kf i 7 = nI l) → wtP (upd kf (240 + l) (-1)) l i = false := fun i h => by
    refine Bool.eq_false_iff.mpr (fun q => h ?_)
    unfold wtP at q
    rw [kg_hold _ _ _ hl, kg_hold _ _ _ hl] at q
    simp at q
    exact q
  have ah : ∀ i b, i < n → b < n → kg kf i 6 = 1 → kg kf b 6 = 1 → (ahead (upd kf (240 + l) (-1)) vf (stnd (upd kf (240 + l) (-1)) vf i) (stnd (upd kf (240 + l) (-1)) vf b) = true ↔ rkA kf vf (stnd kf vf i) < rkA kf vf (stnd kf vf b)) := fun i b hi hb h1 h2 => by
    rw [ah_hold _ _ _ hl, stnd_hold hW hl ht ht6 h8 hi (fun e => ht6 (e ▸ h1)), stnd_hold hW hl ht ht6 h8 hb (fun e => ht6 (e ▸ h2)), hR.ah hn2 (stnd_min hW hR hi).1 (stnd_min hW hR hb).1]
  have L : ∀ (k i : Nat), i + k = n → (pick (upd kf (240 + l) (-1)) vf (wtP (upd kf (240 + l) (-1)) l) i = none → EvR G 1 uX0_handOver (zz m) (nn m) (fun r mm => r = none ∧ KQ Z mm Y ρ (psF (upd kf (240 + l) (-1)) vf l) vf n) 4 [(3, .int (nI i)), (2, .null), (0, .ref (Y.1 0)), (1, .int (nI l))] [] m) ∧ (∀ b, pick (upd kf (240 + l) (-1)) vf (wtP (upd kf (240 + l) (-1)) l) i = some b → EvR G 1 uX0_handOver (zz m) (nn m) (fun r mm => r = none ∧ KQ Z mm Y ρ (psF (upd kf (240 + l) (-1)) vf l) vf n) 4 [(3, .int (nI i)), (2, .ref (Y.1 (9 + b))), (0, .ref (Y.1 0)), (1, .int (nI l))] [] m) := by
    intro k
    induction k with
    | zero =>
      intro i hi
      have hin : i = n := by omega
      refine ⟨fun hp => ?_, fun b hp => ?_⟩
      · skip
        refine r_go (fun kk => e_iload_n 0 dX0_handOver_4 rfl kk) ?_
        refine r_go (fun kk => e_aload_n 2 dX0_handOver_5 rfl kk) ?_
        refine r_go (fun kk => e_getIv (nI n) dX0_handOver_6 fl_X0_43 rfl (hq.T 0 (by decide)) hq.n7 kk) ?_
        refine r_go (fun kk => e_icmp_geN 64 dX0_handOver_9 (by decide) (by omega) (by omega) (fun _ => kk) (fun h => absurd h (by omega))) ?_
        refine r_go (fun kk => e_aload_nN 1 dX0_handOver_64 rfl kk) ?_
        refine r_go (fun kk => e_ifnonnullN dX0_handOver_65 kk) ?_
        refine r_go (fun kk => e_aload_n 2 dX0_handOver_68 rfl kk) ?_
        refine r_go (fun kk => e_getP (some (Y.1 5)) dX0_handOver_69 fl_X0_30 rfl (hq.T 0 (by decide)) (hq.1.2.2.1.2.2.2.1) kk) ?_
        refine r_go (fun kk => e_iload_n 3 dX0_handOver_72 rfl kk) ?_
        refine r_go (fun kk => e_ic ((-1)) dX0_handOver_73 (by decide) kk) ?_
        refine r_go (fun kk => e_iastN _ dX0_handOver_74 (hq.T 5 (by decide)) (by rw [hq.1.2.1.2.2.1]; exact (by omega)) (by rw [hq.1.2.1.2.2.1]; decide) rfl kk) ?_
        refine r_gen (fun mm => KQ Z mm Y ρ (upd kf (240 + l) (-1)) vf n) (hq.ho hρ (by omega)) (fun m1 hq1 => ?_)
        rw [hin] at hp
        exact r_ret ⟨rfl, by rw [psF, hnt, hp, upd_upd]; exact hq1⟩ (e_retV dX0_handOver_75 rfl rfl)
      · have hb : b < n := by
          have := (pick_lt hp).1
          omega
        rw [hin] at hp
        refine r_go (fun kk => e_iload_n 0 dX0_handOver_4 rfl kk) ?_
        refine r_go (fun kk => e_aload_n 2 dX0_handOver_5 rfl kk) ?_
        refine r_go (fun kk => e_getIv (nI n) dX0_handOver_6 fl_X0_43 rfl (hq.T 0 (by decide)) hq.n7 kk) ?_
        refine r_go (fun kk => e_icmp_geN 64 dX0_handOver_9 (by decide) (by omega) (by omega) (fun _ => kk) (fun h => absurd h (by omega))) ?_
        refine r_go (fun kk => e_aload_n 1 dX0_handOver_64 rfl kk) ?_
        refine r_go (fun kk => e_ifnonnull 76 dX0_handOver_65 (by decide) kk) ?_
        refine r_go (fun kk => e_aload_n 2 dX0_handOver_76 rfl kk) ?_
        refine r_go (fun kk => e_getP (some (Y.1 5)) dX0_handOver_77 fl_X0_30 rfl (hq.T 0 (by decide)) (hq.1.2.2.1.2.2.2.1) kk) ?_
        refine r_go (fun kk => e_iload_n 3 dX0_handOver_80 rfl kk) ?_
        refine r_go (fun kk => e_aload_n 1 dX0_handOver_81 rfl kk) ?_
        refine r_go (fun kk => e_getIv (nI b) dX0_handOver_82 fl_X0_108 rfl (hq.Tt (by omega)) (hq.gno (by omega)) kk) ?_
        refine r_go (fun kk => e_iastN _ dX0_handOver_85 (hq.T 5 (by decide)) (by rw [hq.1.2.1.2.2.1]; exact (by omega)) (by rw [hq.1.2.1.2.2.1]; decide) rfl kk) ?_
        refine r_gen (fun mm => KQ Z mm Y ρ (upd kf (240 + l) (nI b)) vf n) (hq.ho hρ (by omega)) (fun m1 hq1 => ?_)
        refine r_go (fun kk => e_aload_n 1 dX0_handOver_86 rfl kk) ?_
        obtain ⟨_, m2, ⟨rfl, hq2⟩, E2x87⟩ := k_wake (G := G) hq1 hρ (t := b) (by omega)
        refine r_go (fun kk => e_callV (ci := 4) (st := []) (st1 := []) (As := []) (E2x87) dX0_handOver_87 (by decide) cm_X4_wake lk_X0_118 im_X4_wake rfl sel_X4_wake (hq1.Tt (by omega)) rfl rfl (Nat.le_of_ble_eq_true rfl) rfl kk) ?_
        refine r_go (fun kk => e_aload_n 2 dX0_handOver_90 rfl kk) ?_
        refine r_go (fun kk => e_getP (some (Y.1 8)) dX0_handOver_91 fl_X0_40 rfl (hq2.T 0 (by decide)) (hq2.1.2.2.1.2.2.2.2.2.2.1) kk) ?_
        refine r_go (fun kk => e_aload_n 1 dX0_handOver_94 rfl kk) ?_
        refine r_go (fun kk => e_getIv (kg (rdy (upd kf (240 + l) (nI b)) b) b 0) dX0_handOver_95 fl_X0_204 rfl (hq2.Tt (by omega)) (hq2.gt (by omega) 0 _ (by decide) rfl) kk) ?_
        refine r_go (fun kk => e_ic (nI 4) dX0_handOver_98 (by decide) kk) ?_
        refine r_go (fun kk => e_iv (w := 4) rfl kk) ?_
        refine r_b2 (fun ka kb => e_icmp_ne 107 dX0_handOver_99 (by decide) ka kb) (fun q4 => ?_) (fun q4 => ?_)
        · skip
          refine r_go (fun kk => e_bipush (v := nI 10) dX0_handOver_107 (by decide) kk) ?_
          refine r_go (fun kk => e_dup2 dX0_handOver_109 rfl rfl kk) ?_
          refine r_go (fun kk => e_ialdN ((rdy (upd kf (240 + l) (nI b)) b) (220 + 10)) dX0_handOver_110 (hq2.T 8 (by decide)) (by rw [hq2.1.2.1.2.2.2.2.2]; exact (by omega)) (by rw [hq2.1.2.1.2.2.2.2.2]; decide) (hq2.2.1.2.1.2.2.1 10 (by omega)) kk) ?_
          refine r_go (fun kk => e_ic (nI 1) dX0_handOver_111 (by decide) kk) ?_
          refine r_go (fun kk => e_iadd dX0_handOver_112 kk) ?_
          refine r_go (fun kk => e_iastN _ dX0_handOver_113 (hq2.T 8 (by decide)) (by rw [hq2.1.2.1.2.2.2.2.2]; exact (by omega)) (by rw [hq2.1.2.1.2.2.2.2.2]; decide) rfl kk) ?_
          refine r_gen (fun mm => KQ Z mm Y ρ (bd (rdy (upd kf (240 + l) (nI b)) b) 10) vf n) (hq2.ra hρ (by omega)) (fun m3 hq3 => ?_)
          exact r_ret ⟨rfl, by rw [psF, hnt, hp]; dsimp only; rw [upd_upd, if_neg q4]; exact hq3⟩ (e_retV dX0_handOver_114 rfl rfl)
        · skip
          refine r_go (fun kk => e_bipush (v := nI 11) dX0_handOver_102 (by decide) kk) ?_
          refine r_go (fun kk => e_goto 109 dX0_handOver_104 (by decide) kk) ?_
          refine r_go (fun kk => e_dup2 dX0_handOver_109 rfl rfl kk) ?_
          refine r_go (fun kk => e_ialdN ((rdy (upd kf (240 + l) (nI b)) b) (220 + 11)) dX0_handOver_110 (hq2.T 8 (by decide)) (by rw [hq2.1.2.1.2.2.2.2.2]; exact (by omega)) (by rw [hq2.1.2.1.2.2.2.2.2]; decide) (hq2.2.1.2.1.2.2.1 11 (by omega)) kk) ?_
          refine r_go (fun kk => e_ic (nI 1) dX0_handOver_111 (by decide) kk) ?_
          refine r_go (fun kk => e_iadd dX0_handOver_112 kk) ?_
          refine r_go (fun kk => e_iastN _ dX0_handOver_113 (hq2.T 8 (by decide)) (by rw [hq2.1.2.1.2.2.2.2.2]; exact (by omega)) (by rw [hq2.1.2.1.2.2.2.2.2]; decide) rfl kk) ?_
          refine r_gen (fun mm => KQ Z mm Y ρ (bd (rdy (upd kf (240 + l) (nI b)) b) 11) vf n) (hq2.ra hρ (by omega)) (fun m4 hq4 => ?_)
          exact r_ret ⟨rfl, by rw [psF, hnt, hp]; dsimp only; rw [upd_upd, if_pos q4]; exact hq4⟩ (e_retV dX0_handOver_114 rfl rfl)
    | succ k ih =>
      intro i hi
      refine ⟨fun hp => ?_, fun b hp => ?_⟩
      · skip
        refine r_go (fun kk => e_iload_n 0 dX0_handOver_4 rfl kk) ?_
        refine r_go (fun kk => e_aload_n 2 dX0_handOver_5 rfl kk) ?_
        refine r_go (fun kk => e_getIv (nI n) dX0_handOver_6 fl_X0_43 rfl (hq.T 0 (by decide)) hq.n7 kk) ?_
        refine r_go (fun kk => e_icmp_geN 64 dX0_handOver_9 (by decide) (by omega) (by omega) (fun h => absurd h (by omega)) (fun _ => kk)) ?_
        refine r_go (fun kk => e_aload_n 2 dX0_handOver_12 rfl kk) ?_
        refine r_go (fun kk => e_getP (some (Y.1 1)) dX0_handOver_13 fl_X0_11 rfl (hq.T 0 (by decide)) (hq.1.2.2.1.1) kk) ?_
        refine r_go (fun kk => e_iload_n 0 dX0_handOver_16 rfl kk) ?_
        refine r_go (fun kk => e_aaldN (some (Y.1 (9 + i))) dX0_handOver_17 (hq.T 1 (by decide)) (Or.inr rfl) (by rw [hq.1.2.1.1]; exact (by omega)) (by rw [hq.1.2.1.1]; decide) (hq.pt (by omega)) kk) ?_
        refine r_go (fun kk => e_astore (lv' := [(4, .ref (Y.1 (9 + i))), (3, .int (nI i)), (2, .null), (0, .ref (Y.1 0)), (1, .int (nI l))]) dX0_handOver_18 (by decide) rfl kk) ?_
        refine r_go (fun kk => e_aload 0 dX0_handOver_20 rfl kk) ?_
        refine r_go (fun kk => e_getIv (kg kf i 6) dX0_handOver_22 fl_X0_93 rfl (hq.Tt (by omega)) (hq.gt (by omega) 6 _ (by decide) rfl) kk) ?_
        refine r_go (fun kk => e_ic (nI 1) dX0_handOver_25 (by decide) kk) ?_
        refine r_go (fun kk => e_iv (w := 1) rfl kk) ?_
        refine r_b2 (fun ka kb => e_icmp_ne 58 dX0_handOver_26 (by decide) ka kb) (fun q1 => ?_) (fun q1 => ?_)
        · skip
          refine r_go (fun kk => e_iinc1N (lv' := [(3, .int (nI (i + 1))), (4, .ref (Y.1 (9 + i))), (2, .null), (0, .ref (Y.1 0)), (1, .int (nI l))]) 1 dX0_handOver_58 rfl (by decide) rfl kk) ?_
          refine r_go (fun kk => e_goto 4 dX0_handOver_61 (by decide) kk) ?_
          refine r_go (fun kk => e_sub [0, 2, 3, 4] rfl kk) ?_
          exact (ih (i + 1) (by omega)).1 ((pick_s0 (wt0 i (fun z => q1 z.1))).trans hp)
        · skip
          refine r_go (fun kk => e_aload 0 dX0_handOver_29 rfl kk) ?_
          refine r_go (fun kk => e_getIv (kg kf i 7) dX0_handOver_31 fl_X0_115 rfl (hq.Tt (by omega)) (hq.gt (by omega) 7 _ (by decide) rfl) kk) ?_
          refine r_go (fun kk => e_iload_n 4 dX0_handOver_34 rfl kk) ?_
          refine r_b2 (fun ka kb => e_icmp_ne 58 dX0_handOver_35 (by decide) ka kb) (fun q2 => ?_) (fun q2 => ?_)
          · skip
            refine r_go (fun kk => e_iinc1N (lv' := [(3, .int (nI (i + 1))), (4, .ref (Y.1 (9 + i))), (2, .null), (0, .ref (Y.1 0)), (1, .int (nI l))]) 1 dX0_handOver_58 rfl (by decide) rfl kk) ?_
            refine r_go (fun kk => e_goto 4 dX0_handOver_61 (by decide) kk) ?_
            refine r_go (fun kk => e_sub [0, 2, 3, 4] rfl kk) ?_
            exact (ih (i + 1) (by omega)).1 ((pick_s0 (wt0 i (fun z => q2 z.2))).trans hp)
          · skip
            refine r_go (fun kk => e_aload_nN 2 dX0_handOver_38 rfl kk) ?_
            refine r_go (fun kk => e_ifnullN 55 dX0_handOver_39 (by decide) kk) ?_
            refine r_go (fun kk => e_aload 0 dX0_handOver_55 rfl kk) ?_
            refine r_go (fun kk => e_astore_n (lv' := [(2, .ref (Y.1 (9 + i))), (4, .ref (Y.1 (9 + i))), (3, .int (nI i)), (0, .ref (Y.1 0)), (1, .int (nI l))]) dX0_handOver_57 (by decide) rfl kk) ?_
            refine r_go (fun kk => e_iinc1N (lv' := [(3, .int (nI (i + 1))), (2, .ref (Y.1 (9 + i))), (4, .ref (Y.1 (9 + i))), (0, .ref (Y.1 0)), (1, .int (nI l))]) 2 dX0_handOver_58 rfl (by decide) rfl kk) ?_
            refine r_go (fun kk => e_goto 4 dX0_handOver_61 (by decide) kk) ?_
            refine r_go (fun kk => e_sub [0, 1, 3, 4] rfl kk) ?_
            exact (ih (i + 1) (by omega)).2 i (pick_s1 (wt1 i q1 q2) hp)
      · have hb : b < n := by
          have := (pick_lt hp).1
          omega
        have hb6 := wt b (pick_lt hp).2
        refine r_go (fun kk => e_iload_n 0 dX0_handOver_4 rfl kk) ?_
        refine r_go (fun kk => e_aload_n 2 dX0_handOver_5 rfl kk) ?_
        refine r_go (fun kk => e_getIv (nI n) dX0_handOver_6 fl_X0_43 rfl (hq.T 0 (by decide)) hq.n7 kk) ?_
        refine r_go (fun kk => e_icmp_geN 64 dX0_handOver_9 (by decide) (by omega) (by omega) (fun h => absurd h (by omega)) (fun _ => kk)) ?_
        refine r_go (fun kk => e_aload_n 2 dX0_handOver_12 rfl kk) ?_
        refine r_go (fun kk => e_getP (some (Y.1 1)) dX0_handOver_13 fl_X0_11 rfl (hq.T 0 (by decide)) (hq.1.2.2.1.1) kk) ?_
        refine r_go (fun kk => e_iload_n 0 dX0_handOver_16 rfl kk) ?_
        refine r_go (fun kk => e_aaldN (some (Y.1 (9 + i))) dX0_handOver_17 (hq.T 1 (by decide)) (Or.inr rfl) (by rw [hq.1.2.1.1]; exact (by omega)) (by rw [hq.1.2.1.1]; decide) (hq.pt (by omega)) kk) ?_
        refine r_go (fun kk => e_astore (lv' := [(4, .ref (Y.1 (9 + i))), (3, .int (nI i)), (2, .ref (Y.1 (9 + b))), (0, .ref (Y.1 0)), (1, .int (nI l))]) dX0_handOver_18 (by decide) rfl kk) ?_
        refine r_go (fun kk => e_aload 0 dX0_handOver_20 rfl kk) ?_
        refine r_go (fun kk => e_getIv (kg kf i 6) dX0_handOver_22 fl_X0_93 rfl (hq.Tt (by omega)) (hq.gt (by omega) 6 _ (by decide) rfl) kk) ?_
        refine r_go (fun kk => e_ic (nI 1) dX0_handOver_25 (by decide) kk) ?_
        refine r_go (fun kk => e_iv (w := 1) rfl kk) ?_
        refine r_b2 (fun ka kb => e_icmp_ne 58 dX0_handOver_26 (by decide) ka kb) (fun q1 => ?_) (fun q1 => ?_)
        · skip
          refine r_go (fun kk => e_iinc1N (lv' := [(3, .int (nI (i + 1))), (4, .ref (Y.1 (9 + i))), (2, .ref (Y.1 (9 + b))), (0, .ref (Y.1 0)), (1, .int (nI l))]) 1 dX0_handOver_58 rfl (by decide) rfl kk) ?_
          refine r_go (fun kk => e_goto 4 dX0_handOver_61 (by decide) kk) ?_
          refine r_go (fun kk => e_sub [0, 2, 3, 4] rfl kk) ?_
          exact (ih (i + 1) (by omega)).2 b ((pick_s0 (wt0 i (fun z => q1 z.1))).trans hp)
        · skip
          refine r_go (fun kk => e_aload 0 dX0_handOver_29 rfl kk) ?_
          refine r_go (fun kk => e_getIv (kg kf i 7) dX0_handOver_31 fl_X0_115 rfl (hq.Tt (by omega)) (hq.gt (by omega) 7 _ (by decide) rfl) kk) ?_
          refine r_go (fun kk => e_iload_n 4 dX0_handOver_34 rfl kk) ?_
          refine r_b2 (fun ka kb => e_icmp_ne 58 dX0_handOver_35 (by decide) ka kb) (fun q2 => ?_) (fun q2 => ?_)
          · skip
            refine r_go (fun kk => e_iinc1N (lv' := [(3, .int (nI (i + 1))), (4, .ref (Y.1 (9 + i))), (2, .ref (Y.1 (9 + b))), (0, .ref (Y.1 0)), (1, .int (nI l))]) 1 dX0_handOver_58 rfl (by decide) rfl kk) ?_
            refine r_go (fun kk => e_goto 4 dX0_handOver_61 (by decide) kk) ?_
            refine r_go (fun kk => e_sub [0, 2, 3, 4] rfl kk) ?_
            exact (ih (i + 1) (by omega)).2 b ((pick_s0 (wt0 i (fun z => q2 z.2))).trans hp)
          · skip
            refine r_go (fun kk => e_aload_n 2 dX0_handOver_38 rfl kk) ?_
            refine r_go (fun kk => e_ifnull dX0_handOver_39 kk) ?_
            refine r_go (fun kk => e_aload 0 dX0_handOver_42 rfl kk) ?_
            refine r_go (fun kk => e_getLv (rkA kf vf (stnd kf vf i)) dX0_handOver_44 fl_X0_168 rfl (hq.Tt (by omega)) (hσ i (by omega)) kk) ?_
            refine r_go (fun kk => e_aload_n 2 dX0_handOver_47 rfl kk) ?_
            refine r_go (fun kk => e_getLv (rkA kf vf (stnd kf vf b)) dX0_handOver_48 fl_X0_168 rfl (hq.Tt (by omega)) (hσ b (by omega)) kk) ?_
            refine r_go (fun kk => e_lcmp dX0_handOver_51 kk) ?_
            refine r_b1 (fun ka kb => e_lc_ge 58 dX0_handOver_52 (by decide) ka kb) (fun q3 => ?_) (fun q3 => ?_)
            · skip
              have q3' := Int64.not_lt.mpr q3
              refine r_go (fun kk => e_iinc1N (lv' := [(3, .int (nI (i + 1))), (4, .ref (Y.1 (9 + i))), (2, .ref (Y.1 (9 + b))), (0, .ref (Y.1 0)), (1, .int (nI l))]) 1 dX0_handOver_58 rfl (by decide) rfl kk) ?_
              refine r_go (fun kk => e_goto 4 dX0_handOver_61 (by decide) kk) ?_
              refine r_go (fun kk => e_sub [0, 2, 3, 4] rfl kk) ?_
              exact (ih (i + 1) (by omega)).2 b (pick_s3 (wt1 i q1 q2) hp (Bool.eq_false_iff.mpr (fun z => Int64.not_lt.mpr q3 ((ah i b (by omega) hb q1 hb6).mp z))))
            · skip
              have q3' := Int64.not_le.mp q3
              refine r_go (fun kk => e_aload 0 dX0_handOver_55 rfl kk) ?_
              refine r_go (fun kk => e_astore_n (lv' := [(2, .ref (Y.1 (9 + i))), (4, .ref (Y.1 (9 + i))), (3, .int (nI i)), (0, .ref (Y.1 0)), (1, .int (nI l))]) dX0_handOver_57 (by decide) rfl kk) ?_
              refine r_go (fun kk => e_iinc1N (lv' := [(3, .int (nI (i + 1))), (2, .ref (Y.1 (9 + i))), (4, .ref (Y.1 (9 + i))), (0, .ref (Y.1 0)), (1, .int (nI l))]) 2 dX0_handOver_58 rfl (by decide) rfl kk) ?_
              refine r_go (fun kk => e_goto 4 dX0_handOver_61 (by decide) kk) ?_
              refine r_go (fun kk => e_sub [0, 1, 3, 4] rfl kk) ?_
              exact (ih (i + 1) (by omega)).2 i (pick_s2 (wt1 i q1 q2) hp ((ah i b (by omega) hb q1 hb6).mpr (Int64.not_le.mp q3)))
  refine r_go (fun kk => e_lvs (lv' := [(0, .ref (Y.1 0)), (1, .int (nI l))]) rfl kk) ?_
  refine r_go (fun kk => e_null dX0_handOver_0 kk) ?_
  refine r_go (fun kk => e_astore_nN (lv' := [(2, .null), (0, .ref (Y.1 0)), (1, .int (nI l))]) dX0_handOver_1 (by decide) rfl kk) ?_
  refine r_go (fun kk => e_ic (nI 0) dX0_handOver_2 (by decide) kk) ?_
  refine r_go (fun kk => e_istore_n (lv' := [(3, .int (nI 0)), (2, .null), (0, .ref (Y.1 0)), (1, .int (nI l))]) dX0_handOver_3 (by decide) rfl kk) ?_
  refine r_go (fun kk => e_sub [0, 1, 2, 3] rfl kk) ?_
  exact (L n 0 (by omega)).1 rfl

set_option maxRecDepth 100000 in
set_option maxHeartbeats 4000000 in
theorem k_give1 (hq : KQ Z m Y ρ kf vf n) (hρ : 62000 ≤ ρ) {t : Nat} (ht : t < n) (hW : WF kf n) (hR : RH kf vf n) (h6 : kg kf t 6 = 0) {j : Nat} (hj : j < 100) : EvC G 2 uX0_give [.ref (Y.1 0), .ref (Y.1 (9 + t)), .int (nI j)] m (fun r mm => r = some (.int (oc (gvF kf vf t (nI j)).1)) ∧ KQ Z mm Y ρ (gvF kf vf t (nI j)).2 vf n) := by
  refine EvC.of (by decide +kernel) (Nat.le_of_ble_eq_true rfl) ?_
  have hn2 := hq.n2
  refine r_go (fun kk => e_lvs (lv' := [(0, .ref (Y.1 0)), (1, .ref (Y.1 (9 + t))), (2, .int (nI j))]) rfl kk) ?_
  refine r_go (fun kk => e_aload_n 0 dX0_give_0 rfl kk) ?_
  refine r_go (fun kk => e_iload_n 2 dX0_give_1 rfl kk) ?_
  refine r_go (fun kk => e_callV (ci := 0) (st := []) (st1 := [.int (kf (240 + j))]) (As := [.int (nI j)]) (k_holderOf hq hj) dX0_give_2 (by decide) cm_X0_holderOf lk_X0_273 im_X0_holderOf rfl sel_X0_holderOf (hq.T 0 (by decide)) rfl rfl (Nat.le_of_ble_eq_true rfl) rfl kk) ?_
  refine r_go (fun kk => e_istore_n (lv' := [(3, .int (kf (240 + j))), (0, .ref (Y.1 0)), (1, .ref (Y.1 (9 + t))), (2, .int (nI j))]) dX0_give_5 (by decide) rfl kk) ?_
  refine r_go (fun kk => e_iload_n 0 dX0_give_6 rfl kk) ?_
  refine r_go (fun kk => e_bipush (v := (-2)) dX0_give_7 (by decide) kk) ?_
  refine r_b2 (fun ka kb => e_icmp_ne 15 dX0_give_9 (by decide) ka kb) (fun q1 => ?_) (fun q1 => ?_)
  · skip
    refine r_go (fun kk => e_iload_n 0 dX0_give_15 rfl kk) ?_
    refine r_go (fun kk => e_aload_n 2 dX0_give_16 rfl kk) ?_
    refine r_go (fun kk => e_getIv (nI t) dX0_give_17 fl_X0_108 rfl (hq.Tt (by omega)) (hq.gno (by omega)) kk) ?_
    refine r_b1 (fun ka kb => e_icmp_eq 26 dX0_give_20 (by decide) ka kb) (fun q2 => ?_) (fun q2 => ?_)
    · skip
      refine r_go (fun kk => e_aload_n 1 dX0_give_26 rfl kk) ?_
      obtain ⟨_, m1, ⟨rfl, hq1, hσ⟩, E1x27⟩ := k_settle (G := G) hq hW hR
      refine r_go (fun kk => e_callV (ci := 0) (st := []) (st1 := []) (As := []) (E1x27) dX0_give_27 (by decide) cm_X0_settle lk_X0_159 im_X0_settle rfl sel_X0_settle (hq.T 0 (by decide)) rfl rfl (Nat.le_of_ble_eq_true rfl) rfl kk) ?_
      refine r_go (fun kk => e_aload_n 1 dX0_give_30 rfl kk) ?_
      refine r_go (fun kk => e_iload_n 3 dX0_give_31 rfl kk) ?_
      obtain ⟨_, m2, ⟨rfl, hq2⟩, E2x32⟩ := k_handOver (G := G) hq1 hρ hW hR hj ht (by rw [h6]; decide) q2 hσ
      refine r_go (fun kk => e_callV (ci := 0) (st := []) (st1 := []) (As := [.int (nI j)]) (E2x32) dX0_give_32 (by decide) cm_X0_handOver lk_X0_213 im_X0_handOver rfl sel_X0_handOver (hq1.T 0 (by decide)) rfl rfl (Nat.le_of_ble_eq_true rfl) rfl kk) ?_
      refine r_go (fun kk => e_ic ((-1)) dX0_give_35 (by decide) kk) ?_
      have e : inI (nI j) (nI 0) (nI 99) = true := inI_of (by omega) (by omega) (by decide)
      exact r_ret ⟨by rw [gvF, nI_clamp (show j < 2 ^ 31 by omega), if_pos ⟨e, q1⟩, if_pos q2]; rfl, by rw [gvF, nI_clamp (show j < 2 ^ 31 by omega), if_pos ⟨e, q1⟩, if_pos q2]; exact hq2⟩ (e_retI dX0_give_36 rfl rfl rfl)
    · skip
      refine r_go (fun kk => e_bipush (v := nI 11) dX0_give_23 (by decide) kk) ?_
      have e : inI (nI j) (nI 0) (nI 99) = true := inI_of (by omega) (by omega) (by decide)
      exact r_ret ⟨by rw [gvF, nI_clamp (show j < 2 ^ 31 by omega), if_pos ⟨e, q1⟩, if_neg q2]; rfl, by rw [gvF, nI_clamp (show j < 2 ^ 31 by omega), if_pos ⟨e, q1⟩, if_neg q2]; exact hq⟩ (e_retI dX0_give_25 rfl rfl rfl)
  · skip
    refine r_go (fun kk => e_bipush (v := nI 7) dX0_give_12 (by decide) kk) ?_
    have e : inI (nI j) (nI 0) (nI 99) = true := inI_of (by omega) (by omega) (by decide)
    exact r_ret ⟨by rw [gvF, if_neg (fun z => z.2 (by rw [nI_clamp (by omega)]; exact q1))]; rfl, by rw [gvF, if_neg (fun z => z.2 (by rw [nI_clamp (by omega)]; exact q1))]; exact hq⟩ (e_retI dX0_give_14 rfl rfl rfl)

set_option maxRecDepth 100000 in
set_option maxHeartbeats 4000000 in
theorem k_give2 (hq : KQ Z m Y ρ kf vf n) (hρ : 62000 ≤ ρ) {t : Nat} (ht : t < n) {x : Int32} (hx : inI x (nI 0) (nI 99) = false) : EvC G 2 uX0_give [.ref (Y.1 0), .ref (Y.1 (9 + t)), .int x] m (fun r mm => r = some (.int (oc (gvF kf vf t x).1)) ∧ KQ Z mm Y ρ (gvF kf vf t x).2 vf n) := by
  refine EvC.of (by decide +kernel) (Nat.le_of_ble_eq_true rfl) ?_
  have hn2 := hq.n2
  refine r_go (fun kk => e_lvs (lv' := [(0, .ref (Y.1 0)), (1, .ref (Y.1 (9 + t))), (2, .int x)]) rfl kk) ?_
  refine r_go (fun kk => e_aload_n 0 dX0_give_0 rfl kk) ?_
  refine r_go (fun kk => e_iload_n 2 dX0_give_1 rfl kk) ?_
  refine r_go (fun kk => e_callV (ci := 0) (st := []) (st1 := [.int (-2)]) (As := [.int x]) (k_holderOfN hq hx) dX0_give_2 (by decide) cm_X0_holderOf lk_X0_273 im_X0_holderOf rfl sel_X0_holderOf (hq.T 0 (by decide)) rfl rfl (Nat.le_of_ble_eq_true rfl) rfl kk) ?_
  refine r_go (fun kk => e_istore_n (lv' := [(3, .int (-2)), (0, .ref (Y.1 0)), (1, .ref (Y.1 (9 + t))), (2, .int x)]) dX0_give_5 (by decide) rfl kk) ?_
  refine r_go (fun kk => e_iload_n 0 dX0_give_6 rfl kk) ?_
  refine r_go (fun kk => e_bipush (v := (-2)) dX0_give_7 (by decide) kk) ?_
  refine r_go (fun kk => e_icmp_ne 15 dX0_give_9 (by decide) (fun h => absurd h (by decide)) (fun _ => kk)) ?_
  refine r_go (fun kk => e_bipush (v := nI 7) dX0_give_12 (by decide) kk) ?_
  exact r_ret ⟨by rw [gvF, if_neg (fun z => absurd z.1 (by rw [hx]; decide))]; rfl, by rw [gvF, if_neg (fun z => absurd z.1 (by rw [hx]; decide))]; exact hq⟩ (e_retI dX0_give_14 rfl rfl rfl)

theorem k_give (hq : KQ Z m Y ρ kf vf n) (hρ : 62000 ≤ ρ) {t : Nat} (ht : t < n) (hW : WF kf n) (hR : RH kf vf n) (h6 : kg kf t 6 = 0) (x : Int32) : EvC G 2 uX0_give [.ref (Y.1 0), .ref (Y.1 (9 + t)), .int x] m (fun r mm => r = some (.int (oc (gvF kf vf t x).1)) ∧ KQ Z mm Y ρ (gvF kf vf t x).2 vf n) := by
  cases h : inI x (nI 0) (nI 99)
  · exact k_give2 hq hρ ht h
  · obtain ⟨j, -, hj, rfl⟩ := inI_n (by decide) (by decide) h
    exact k_give1 hq hρ ht hW hR h6 (by omega)

theorem ed0_eq {kf : KF} {t : Nat} {q : Int32} (h7 : kg kf t 7 = -1) (h8 : kg kf t 8 = -1) : ed0 kf t q = ks (ks kf t 6 (nI 4)) t 9 q := by
  unfold ed0
  have e : ks (rdy kf t) t 6 (nI 4) = ks kf t 6 (nI 4) := by
    have e1 : rdy kf t = ks kf t 6 (nI 0) := by
      unfold rdy
      have a : ks (ks kf t 6 (nI 0)) t 7 (-1) = ks kf t 6 (nI 0) := ks_self (by rw [kg_ne _ _ _ _ _ _ (by decide) (by decide) (by decide), h7])
      rw [a]
      exact ks_self (by rw [kg_ne _ _ _ _ _ _ (by decide) (by decide) (by decide), h8])
    rw [e1]
    exact upd_upd _ _ _ _
  rw [e]
theorem edL_6 {kf : KF} {vf : VF} {n t : Nat} {q : Int32} : ∀ i, i ≤ 100 → kg (edL kf vf t q i) t 6 = nI 4 := by
  intro i
  induction i with
  | zero =>
    intro _
    show kg (ed0 kf t q) t 6 = nI 4
    rw [ed0, kg_ne _ _ _ _ _ _ (by decide) (by decide) (by decide), kg_eq]
  | succ i ih =>
    intro hi
    have h1 := ih (by omega)
    show kg (edS vf t i (edL kf vf t q i)) t 6 = nI 4
    unfold edS
    split
    · rw [ps_oth (by decide) (by omega) (by rw [kg_hold _ _ _ (by omega), h1]; decide), kg_hold _ _ _ (by omega)]
      exact h1
    · exact h1

set_option maxRecDepth 100000 in
set_option maxHeartbeats 4000000 in
theorem k_end (hq : KQ Z m Y ρ kf vf n) (hρ : 62000 ≤ ρ) {t : Nat} (ht : t < n) (hW : WF kf n) {c B : Nat} (hG : WG kf vf c B) (hB : B < 2 ^ 40) (hc : c < 2 ^ 30) (h7 : kg kf t 7 = -1) (h8 : kg kf t 8 = -1) (x : Int32) : EvC G 2 uX0_end [.ref (Y.1 0), .ref (Y.1 (9 + t)), .int x] m (fun r mm => r = none ∧ KQ Z mm Y ρ (edF kf vf t x) vf n) := by
  refine EvC.of (by decide +kernel) (Nat.le_of_ble_eq_true rfl) ?_
  have hn2 := hq.n2
  have L : ∀ (k i : Nat) (M : Mem), i + k = 100 → KQ Z M Y ρ (edL kf vf t x i) vf n → EvR G 2 uX0_end (zz m) (nn m) (fun r mm => r = none ∧ KQ Z mm Y ρ (edF kf vf t x) vf n) 12 [(3, .int (nI i)), (0, .ref (Y.1 0)), (1, .ref (Y.1 (9 + t)))] [] M := by
    intro k
    induction k with
    | zero =>
      intro i M hi hI
      have hin : i = 100 := by omega
      refine r_go (fun kk => e_iload_n 0 dX0_end_12 rfl kk) ?_
      refine r_go (fun kk => e_bipush (v := nI 100) dX0_end_13 (by decide) kk) ?_
      refine r_go (fun kk => e_icmp_geN 46 dX0_end_15 (by decide) (by omega) (by omega) (fun _ => kk) (fun h => absurd h (by omega))) ?_
      exact r_ret ⟨rfl, by rw [edF, ← hin]; exact hI⟩ (e_retV dX0_end_46 rfl rfl)
    | succ k ih =>
      intro i M hi hI
      have hWi := wf_edL (vf := vf) (q := x) hW ht i (by omega)
      have hRi := (wg_edL (q := x) hW hG ht i (by omega)).rh hWi hB hc
      have h6i := edL_6 (n := n) (kf := kf) (vf := vf) (t := t) (q := x) i (by omega)
      refine r_go (fun kk => e_iload_n 0 dX0_end_12 rfl kk) ?_
      refine r_go (fun kk => e_bipush (v := nI 100) dX0_end_13 (by decide) kk) ?_
      refine r_go (fun kk => e_icmp_geN 46 dX0_end_15 (by decide) (by omega) (by omega) (fun h => absurd h (by omega)) (fun _ => kk)) ?_
      refine r_go (fun kk => e_aload_n 1 dX0_end_18 rfl kk) ?_
      refine r_go (fun kk => e_getP (some (Y.1 5)) dX0_end_19 fl_X0_30 rfl (hI.T 0 (by decide)) (hI.1.2.2.1.2.2.2.1) kk) ?_
      refine r_go (fun kk => e_iload_n 0 dX0_end_22 rfl kk) ?_
      refine r_go (fun kk => e_ialdN ((edL kf vf t x i) (240 + i)) dX0_end_23 (hI.T 5 (by decide)) (by rw [hI.1.2.1.2.2.1]; exact (by omega)) (by rw [hI.1.2.1.2.2.1]; decide) (hI.2.1.2.1.2.2.2 i (by omega)) kk) ?_
      refine r_go (fun kk => e_aload_n 2 dX0_end_24 rfl kk) ?_
      refine r_go (fun kk => e_getIv (nI t) dX0_end_25 fl_X0_108 rfl (hI.Tt (by omega)) (hI.gno (by omega)) kk) ?_
      refine r_b2 (fun ka kb => e_icmp_ne 40 dX0_end_28 (by decide) ka kb) (fun q1 => ?_) (fun q1 => ?_)
      · skip
        refine r_go (fun kk => e_iinc1N (lv' := [(3, .int (nI (i + 1))), (0, .ref (Y.1 0)), (1, .ref (Y.1 (9 + t)))]) 0 dX0_end_40 rfl (by decide) rfl kk) ?_
        refine r_go (fun kk => e_goto 12 dX0_end_43 (by decide) kk) ?_
        refine r_go (fun kk => e_sub [0, 1, 2] rfl kk) ?_
        exact ih (i + 1) M (by omega) (by show KQ Z _ Y ρ (edS vf t i (edL kf vf t x i)) vf n; rw [edS, if_neg q1]; exact hI)
      · skip
        refine r_go (fun kk => e_aload_n 1 dX0_end_31 rfl kk) ?_
        obtain ⟨_, m1, ⟨rfl, hz1, hσ⟩, E1x32⟩ := k_settle (G := G) hI hWi hRi
        refine r_go (fun kk => e_callV (ci := 0) (st := []) (st1 := []) (As := []) (E1x32) dX0_end_32 (by decide) cm_X0_settle lk_X0_159 im_X0_settle rfl sel_X0_settle (hI.T 0 (by decide)) rfl rfl (Nat.le_of_ble_eq_true rfl) rfl kk) ?_
        refine r_go (fun kk => e_aload_n 1 dX0_end_35 rfl kk) ?_
        refine r_go (fun kk => e_iload_n 0 dX0_end_36 rfl kk) ?_
        obtain ⟨_, m2, ⟨rfl, hz2⟩, E2x37⟩ := k_handOver (G := G) hz1 hρ hWi hRi (by omega) ht (by rw [h6i]; decide) q1 hσ
        refine r_go (fun kk => e_callV (ci := 0) (st := []) (st1 := []) (As := [.int (nI i)]) (E2x37) dX0_end_37 (by decide) cm_X0_handOver lk_X0_213 im_X0_handOver rfl sel_X0_handOver (hz1.T 0 (by decide)) rfl rfl (Nat.le_of_ble_eq_true rfl) rfl kk) ?_
        refine r_go (fun kk => e_iinc1N (lv' := [(3, .int (nI (i + 1))), (0, .ref (Y.1 0)), (1, .ref (Y.1 (9 + t)))]) 0 dX0_end_40 rfl (by decide) rfl kk) ?_
        refine r_go (fun kk => e_goto 12 dX0_end_43 (by decide) kk) ?_
        refine r_go (fun kk => e_sub [0, 1, 2] rfl kk) ?_
        exact ih (i + 1) m2 (by omega) (by show KQ Z _ Y ρ (edS vf t i (edL kf vf t x i)) vf n; rw [edS, if_pos q1]; exact hz2)
  refine r_go (fun kk => e_lvs (lv' := [(0, .ref (Y.1 0)), (1, .ref (Y.1 (9 + t))), (2, .int x)]) rfl kk) ?_
  refine r_go (fun kk => e_aload_n 1 dX0_end_0 rfl kk) ?_
  refine r_go (fun kk => e_ic (nI 4) dX0_end_1 (by decide) kk) ?_
  refine r_go (fun kk => e_putI (ci := 4) (k := 8) dX0_end_2 fl_X0_93 rfl (fun q h => by cases h; rfl) ⟨rfl, rfl⟩ (hq.Tt (by omega)) kk) ?_
  refine r_gen (fun mm => KQ Z mm Y ρ (ks kf t 6 (nI 4)) vf n) (hq.t hρ (by omega) (by decide) rfl) (fun m1 hq1 => ?_)
  refine r_go (fun kk => e_aload_n 1 dX0_end_5 rfl kk) ?_
  refine r_go (fun kk => e_iload_n 2 dX0_end_6 rfl kk) ?_
  refine r_go (fun kk => e_putI (ci := 4) (k := 11) dX0_end_7 fl_X0_210 rfl (fun q h => by cases h; rfl) ⟨rfl, rfl⟩ (hq1.Tt (by omega)) kk) ?_
  refine r_gen (fun mm => KQ Z mm Y ρ (ks (ks kf t 6 (nI 4)) t 9 x) vf n) (hq1.t hρ (by omega) (by decide) rfl) (fun m2 hq2 => ?_)
  refine r_go (fun kk => e_ic (nI 0) dX0_end_10 (by decide) kk) ?_
  refine r_go (fun kk => e_istore_n (lv' := [(3, .int (nI 0)), (0, .ref (Y.1 0)), (1, .ref (Y.1 (9 + t))), (2, .int x)]) dX0_end_11 (by decide) rfl kk) ?_
  refine r_go (fun kk => e_sub [0, 1, 2] rfl kk) ?_
  exact L 100 0 _ (by omega) (by show KQ Z _ Y ρ (ed0 kf t x) vf n; rw [ed0_eq h7 h8]; exact hq2)

end Class11
