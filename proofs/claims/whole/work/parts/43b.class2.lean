/-! the class: loops that read, small writes -/
section Class2
variable {G : GG} {Z : Mem × YY} {m : Mem} {Y : YY} {ρ n : Nat} {kf : KF} {vf : VF}

set_option maxRecDepth 100000 in
set_option maxHeartbeats 4000000 in
theorem k_leastVirtual (hq : KQ Z m Y ρ kf vf n) : Ev G 0 uX0_leastVirtual [.ref (Y.1 0)] m (some (.long (lvF kf vf n).2)) m := by
  refine Ev.of (by decide +kernel) (Nat.le_of_ble_eq_true rfl) ?_
  have hn2 := hq.n2
  have L : ∀ (k i : Nat) (a : Bool) (x : Int64), i + k = n → (a, x) = lp (lvS kf vf) i (false, 0) → EvB G 0 uX0_leastVirtual (zz m) (nn m) (some (.long (lvF kf vf n).2)) m 7 [(4, .int (nI i)), (1, .int (bI a)), (2, .long x), (0, .ref (Y.1 0))] [] m := by
    intro k
    induction k with
    | zero =>
      intro i a x hi hI
      refine e_iload 0 dX0_leastVirtual_7 rfl ?_
      refine e_aload_n 3 dX0_leastVirtual_9 rfl ?_
      refine e_getIv (nI n) dX0_leastVirtual_10 fl_X0_43 rfl (hq.T 0 (by decide)) hq.n7 ?_
      refine e_icmp_geN 62 dX0_leastVirtual_13 (by decide) (by omega) (by omega) (fun _ => ?_) (fun h => absurd h (by omega))
      refine e_lload_n 2 dX0_leastVirtual_62 rfl ?_
      exact e_retL dX0_leastVirtual_63 rfl (by rw [lvF, ← show i = n by omega, ← hI]) rfl
    | succ k ih =>
      intro i a x hi hI
      refine e_iload 0 dX0_leastVirtual_7 rfl ?_
      refine e_aload_n 3 dX0_leastVirtual_9 rfl ?_
      refine e_getIv (nI n) dX0_leastVirtual_10 fl_X0_43 rfl (hq.T 0 (by decide)) hq.n7 ?_
      refine e_icmp_geN 62 dX0_leastVirtual_13 (by decide) (by omega) (by omega) (fun h => absurd h (by omega)) (fun _ => ?_)
      refine e_aload_n 3 dX0_leastVirtual_16 rfl ?_
      refine e_getP (some (Y.1 1)) dX0_leastVirtual_17 fl_X0_11 rfl (hq.T 0 (by decide)) (hq.1.2.2.1.1) ?_
      refine e_iload 0 dX0_leastVirtual_20 rfl ?_
      refine e_aaldN (some (Y.1 (9 + i))) dX0_leastVirtual_22 (hq.T 1 (by decide)) (Or.inr rfl) (by rw [hq.1.2.1.1]; exact (by omega)) (by rw [hq.1.2.1.1]; decide) (hq.pt (by omega)) ?_
      refine e_astore (lv' := [(5, .ref (Y.1 (9 + i))), (4, .int (nI i)), (1, .int (bI a)), (2, .long x), (0, .ref (Y.1 0))]) dX0_leastVirtual_23 (by decide) rfl ?_
      refine e_aload 0 dX0_leastVirtual_25 rfl ?_
      refine e_getIv (kg kf i 6) dX0_leastVirtual_27 fl_X0_93 rfl (hq.Tt (by omega)) (hq.gt (by omega) 6 _ (by decide) rfl) ?_
      refine e_ic (nI 4) dX0_leastVirtual_30 (by decide) ?_
      refine e_iv (w := 4) rfl ?_
      refine e_icmp_eq 56 dX0_leastVirtual_31 (by decide) (fun r1 => ?_) (fun r1 => ?_)
      · skip
        refine e_iinc1N (lv' := [(4, .int (nI (i + 1))), (5, .ref (Y.1 (9 + i))), (1, .int (bI a)), (2, .long x), (0, .ref (Y.1 0))]) 1 dX0_leastVirtual_56 rfl (by decide) rfl ?_
        refine e_goto 7 dX0_leastVirtual_59 (by decide) ?_
        refine e_sub [0, 2, 3, 4] rfl ?_
        exact ih (i + 1) a x (by omega) (by show _ = lvS kf vf i (lp (lvS kf vf) i (false, 0)); rw [← hI, lvS]; dsimp only; rw [if_pos (Or.inl r1)])
      · skip
        refine e_iload_n 2 dX0_leastVirtual_34 rfl ?_
        refine e_if_eqB 48 dX0_leastVirtual_35 (by decide) (fun r2 => ?_) (fun r2 => ?_)
        · skip
          refine e_ic (nI 1) dX0_leastVirtual_48 (by decide) ?_
          refine e_istore_n (lv' := [(1, .int (nI 1)), (5, .ref (Y.1 (9 + i))), (4, .int (nI i)), (2, .long x), (0, .ref (Y.1 0))]) dX0_leastVirtual_49 (by decide) rfl ?_
          refine e_aload 1 dX0_leastVirtual_50 rfl ?_
          refine e_getLv (vf i) dX0_leastVirtual_52 fl_X0_111 rfl (hq.Tt (by omega)) (hq.gv (by omega)) ?_
          refine e_lstore_n (lv' := [(2, .long (vf i)), (1, .int (nI 1)), (5, .ref (Y.1 (9 + i))), (4, .int (nI i)), (0, .ref (Y.1 0))]) dX0_leastVirtual_55 (by decide) rfl ?_
          refine e_iinc1N (lv' := [(4, .int (nI (i + 1))), (2, .long (vf i)), (1, .int (nI 1)), (5, .ref (Y.1 (9 + i))), (0, .ref (Y.1 0))]) 3 dX0_leastVirtual_56 rfl (by decide) rfl ?_
          refine e_goto 7 dX0_leastVirtual_59 (by decide) ?_
          refine e_lvs (lv' := [(4, .int (nI (i + 1))), (2, .long (vf i)), (1, .int (bI true)), (5, .ref (Y.1 (9 + i))), (0, .ref (Y.1 0))]) rfl ?_
          refine e_sub [0, 2, 1, 4] rfl ?_
          exact ih (i + 1) true (vf i) (by omega) (by show _ = lvS kf vf i (lp (lvS kf vf) i (false, 0)); rw [← hI, lvS]; dsimp only; rw [if_neg (fun z => z.elim r1 (fun q => absurd q.1 (by rw [r2]; decide)))])
        · skip
          refine e_aload 0 dX0_leastVirtual_38 rfl ?_
          refine e_getLv (vf i) dX0_leastVirtual_40 fl_X0_111 rfl (hq.Tt (by omega)) (hq.gv (by omega)) ?_
          refine e_lload_n 3 dX0_leastVirtual_43 rfl ?_
          refine e_lcmp dX0_leastVirtual_44 ?_
          refine e_lc_ge 56 dX0_leastVirtual_45 (by decide) (fun r3 => ?_) (fun r3 => ?_)
          · skip
            have r3' := Int64.not_lt.mpr r3
            refine e_iinc1N (lv' := [(4, .int (nI (i + 1))), (5, .ref (Y.1 (9 + i))), (1, .int (bI a)), (2, .long x), (0, .ref (Y.1 0))]) 1 dX0_leastVirtual_56 rfl (by decide) rfl ?_
            refine e_goto 7 dX0_leastVirtual_59 (by decide) ?_
            refine e_sub [0, 2, 3, 4] rfl ?_
            exact ih (i + 1) a x (by omega) (by show _ = lvS kf vf i (lp (lvS kf vf) i (false, 0)); rw [← hI, lvS]; dsimp only; rw [if_pos (Or.inr ⟨r2, Int64.not_lt.mpr r3⟩)])
          · skip
            have r3' := Int64.not_le.mp r3
            refine e_ic (nI 1) dX0_leastVirtual_48 (by decide) ?_
            refine e_istore_n (lv' := [(1, .int (nI 1)), (5, .ref (Y.1 (9 + i))), (4, .int (nI i)), (2, .long x), (0, .ref (Y.1 0))]) dX0_leastVirtual_49 (by decide) rfl ?_
            refine e_aload 1 dX0_leastVirtual_50 rfl ?_
            refine e_getLv (vf i) dX0_leastVirtual_52 fl_X0_111 rfl (hq.Tt (by omega)) (hq.gv (by omega)) ?_
            refine e_lstore_n (lv' := [(2, .long (vf i)), (1, .int (nI 1)), (5, .ref (Y.1 (9 + i))), (4, .int (nI i)), (0, .ref (Y.1 0))]) dX0_leastVirtual_55 (by decide) rfl ?_
            refine e_iinc1N (lv' := [(4, .int (nI (i + 1))), (2, .long (vf i)), (1, .int (nI 1)), (5, .ref (Y.1 (9 + i))), (0, .ref (Y.1 0))]) 3 dX0_leastVirtual_56 rfl (by decide) rfl ?_
            refine e_goto 7 dX0_leastVirtual_59 (by decide) ?_
            refine e_lvs (lv' := [(4, .int (nI (i + 1))), (2, .long (vf i)), (1, .int (bI true)), (5, .ref (Y.1 (9 + i))), (0, .ref (Y.1 0))]) rfl ?_
            refine e_sub [0, 2, 1, 4] rfl ?_
            exact ih (i + 1) true (vf i) (by omega) (by show _ = lvS kf vf i (lp (lvS kf vf) i (false, 0)); rw [← hI, lvS]; dsimp only; rw [if_neg (fun z => z.elim r1 (fun q => q.2 (Int64.not_le.mp r3)))])
  refine e_lvs (lv' := [(0, .ref (Y.1 0))]) rfl ?_
  refine e_ic (nI 0) dX0_leastVirtual_0 (by decide) ?_
  refine e_istore_n (lv' := [(1, .int (nI 0)), (0, .ref (Y.1 0))]) dX0_leastVirtual_1 (by decide) rfl ?_
  refine e_lconst (v := lN 0) dX0_leastVirtual_2 (by decide) ?_
  refine e_lstore_n (lv' := [(2, .long (lN 0)), (1, .int (nI 0)), (0, .ref (Y.1 0))]) dX0_leastVirtual_3 (by decide) rfl ?_
  refine e_ic (nI 0) dX0_leastVirtual_4 (by decide) ?_
  refine e_istore (lv' := [(4, .int (nI 0)), (2, .long (lN 0)), (1, .int (nI 0)), (0, .ref (Y.1 0))]) dX0_leastVirtual_5 (by decide) rfl ?_
  refine e_lvs (lv' := [(4, .int (nI 0)), (2, .long (lN 0)), (1, .int (bI false)), (0, .ref (Y.1 0))]) rfl ?_
  refine e_sub [0, 2, 1, 3] rfl ?_
  exact L n 0 false (lN 0) (by omega) rfl

def hmF (kf : KF) (x : Int32) (n : Nat) : Int32 := lp (fun u c => c + (if kg kf u 6 = x then nI 1 else nI 0)) n (nI 0)

set_option maxRecDepth 100000 in
set_option maxHeartbeats 4000000 in
theorem k_howMany (hq : KQ Z m Y ρ kf vf n) (x : Int32) : Ev G 0 uX0_howMany [.ref (Y.1 0), .int x] m (some (.int (hmF kf x n))) m := by
  refine Ev.of (by decide +kernel) (Nat.le_of_ble_eq_true rfl) ?_
  have hn2 := hq.n2
  have L : ∀ (k i : Nat) (c : Int32), i + k = n → c = lp (fun u c => c + (if kg kf u 6 = x then nI 1 else nI 0)) i (nI 0) → EvB G 0 uX0_howMany (zz m) (nn m) (some (.int (hmF kf x n))) m 4 [(3, .int (nI i)), (2, .int c), (0, .ref (Y.1 0)), (1, .int x)] [] m := by
    intro k
    induction k with
    | zero =>
      intro i c hi hI
      refine e_iload_n 0 dX0_howMany_4 rfl ?_
      refine e_aload_n 2 dX0_howMany_5 rfl ?_
      refine e_getIv (nI n) dX0_howMany_6 fl_X0_43 rfl (hq.T 0 (by decide)) hq.n7 ?_
      refine e_icmp_geN 39 dX0_howMany_9 (by decide) (by omega) (by omega) (fun _ => ?_) (fun h => absurd h (by omega))
      refine e_iload_n 1 dX0_howMany_39 rfl ?_
      exact e_retI dX0_howMany_40 rfl rfl (by rw [hmF, ← show i = n by omega, ← hI]) rfl
    | succ k ih =>
      intro i c hi hI
      refine e_iload_n 0 dX0_howMany_4 rfl ?_
      refine e_aload_n 2 dX0_howMany_5 rfl ?_
      refine e_getIv (nI n) dX0_howMany_6 fl_X0_43 rfl (hq.T 0 (by decide)) hq.n7 ?_
      refine e_icmp_geN 39 dX0_howMany_9 (by decide) (by omega) (by omega) (fun h => absurd h (by omega)) (fun _ => ?_)
      refine e_iload_n 1 dX0_howMany_12 rfl ?_
      refine e_aload_n 2 dX0_howMany_13 rfl ?_
      refine e_getP (some (Y.1 1)) dX0_howMany_14 fl_X0_11 rfl (hq.T 0 (by decide)) (hq.1.2.2.1.1) ?_
      refine e_iload_n 0 dX0_howMany_17 rfl ?_
      refine e_aaldN (some (Y.1 (9 + i))) dX0_howMany_18 (hq.T 1 (by decide)) (Or.inr rfl) (by rw [hq.1.2.1.1]; exact (by omega)) (by rw [hq.1.2.1.1]; decide) (hq.pt (by omega)) ?_
      refine e_getIv (kg kf i 6) dX0_howMany_19 fl_X0_93 rfl (hq.Tt (by omega)) (hq.gt (by omega) 6 _ (by decide) rfl) ?_
      refine e_iload_n 3 dX0_howMany_22 rfl ?_
      refine e_icmp_ne 30 dX0_howMany_23 (by decide) (fun r1 => ?_) (fun r1 => ?_)
      · skip
        refine e_ic (nI 0) dX0_howMany_30 (by decide) ?_
        refine e_iadd dX0_howMany_31 ?_
        refine e_istore_n (lv' := [(2, .int (c + (nI 0))), (3, .int (nI i)), (0, .ref (Y.1 0)), (1, .int x)]) dX0_howMany_32 (by decide) rfl ?_
        refine e_iinc1N (lv' := [(3, .int (nI (i + 1))), (2, .int (c + (nI 0))), (0, .ref (Y.1 0)), (1, .int x)]) 1 dX0_howMany_33 rfl (by decide) rfl ?_
        refine e_goto 4 dX0_howMany_36 (by decide) ?_
        refine e_sub [0, 1, 2, 3] rfl ?_
        exact ih (i + 1) (c + (nI 0)) (by omega) (by show _ = lp (fun u c => c + (if kg kf u 6 = x then nI 1 else nI 0)) i (nI 0) + (if kg kf i 6 = x then nI 1 else nI 0); rw [← hI, if_neg r1])
      · skip
        refine e_ic (nI 1) dX0_howMany_26 (by decide) ?_
        refine e_goto 31 dX0_howMany_27 (by decide) ?_
        refine e_iadd dX0_howMany_31 ?_
        refine e_istore_n (lv' := [(2, .int (c + (nI 1))), (3, .int (nI i)), (0, .ref (Y.1 0)), (1, .int x)]) dX0_howMany_32 (by decide) rfl ?_
        refine e_iinc1N (lv' := [(3, .int (nI (i + 1))), (2, .int (c + (nI 1))), (0, .ref (Y.1 0)), (1, .int x)]) 1 dX0_howMany_33 rfl (by decide) rfl ?_
        refine e_goto 4 dX0_howMany_36 (by decide) ?_
        refine e_sub [0, 1, 2, 3] rfl ?_
        exact ih (i + 1) (c + (nI 1)) (by omega) (by show _ = lp (fun u c => c + (if kg kf u 6 = x then nI 1 else nI 0)) i (nI 0) + (if kg kf i 6 = x then nI 1 else nI 0); rw [← hI, if_pos r1])
  refine e_lvs (lv' := [(0, .ref (Y.1 0)), (1, .int x)]) rfl ?_
  refine e_ic (nI 0) dX0_howMany_0 (by decide) ?_
  refine e_istore_n (lv' := [(2, .int (nI 0)), (0, .ref (Y.1 0)), (1, .int x)]) dX0_howMany_1 (by decide) rfl ?_
  refine e_ic (nI 0) dX0_howMany_2 (by decide) ?_
  refine e_istore_n (lv' := [(3, .int (nI 0)), (2, .int (nI 0)), (0, .ref (Y.1 0)), (1, .int x)]) dX0_howMany_3 (by decide) rfl ?_
  refine e_sub [0, 1, 2, 3] rfl ?_
  exact L n 0 (nI 0) (by omega) rfl

set_option maxRecDepth 100000 in
set_option maxHeartbeats 4000000 in
theorem k_changeProcessors (hq : KQ Z m Y ρ kf vf n) (hρ : 62000 ≤ ρ) (x : Int32) : EvC G 0 uX0_changeProcessors [.ref (Y.1 0), .int x] m (fun r mm => r = some (.int (kf 2)) ∧ KQ Z mm Y ρ (upd kf 2 x) vf n) := by
  refine EvC.of (by decide +kernel) (Nat.le_of_ble_eq_true rfl) ?_
  have hn2 := hq.n2
  refine r_go (fun kk => e_lvs (lv' := [(0, .ref (Y.1 0)), (1, .int x)]) rfl kk) ?_
  refine r_go (fun kk => e_aload_n 0 dX0_changeProcessors_0 rfl kk) ?_
  refine r_go (fun kk => e_getIv (kf 2) dX0_changeProcessors_1 fl_X0_50 rfl (hq.T 0 (by decide)) hq.2.1.1.2.2.1 kk) ?_
  refine r_go (fun kk => e_istore_n (lv' := [(2, .int (kf 2)), (0, .ref (Y.1 0)), (1, .int x)]) dX0_changeProcessors_4 (by decide) rfl kk) ?_
  refine r_go (fun kk => e_aload_n 1 dX0_changeProcessors_5 rfl kk) ?_
  refine r_go (fun kk => e_iload_n 2 dX0_changeProcessors_6 rfl kk) ?_
  refine r_go (fun kk => e_putI (ci := 0) (k := 9) dX0_changeProcessors_7 fl_X0_50 rfl (fun q h => by cases h; rfl) ⟨rfl, rfl⟩ (hq.T 0 (by decide)) kk) ?_
  refine r_gen (fun mm => KQ Z mm Y ρ (upd kf 2 x) vf n) (hq.k hρ (by omega)) (fun m1 hq1 => ?_)
  refine r_go (fun kk => e_iload_n 0 dX0_changeProcessors_10 rfl kk) ?_
  exact r_ret (⟨rfl, hq1⟩) (e_retI dX0_changeProcessors_11 rfl rfl rfl)

set_option maxRecDepth 100000 in
set_option maxHeartbeats 4000000 in
theorem k_addLock (hq : KQ Z m Y ρ kf vf n) (hρ : 62000 ≤ ρ) {l : Nat} (hl : l < 100) : EvC G 0 uX0_addLock [.ref (Y.1 0), .int (nI l)] m (fun r mm => r = none ∧ KQ Z mm Y ρ (upd kf (240 + l) (-1)) vf n) := by
  refine EvC.of (by decide +kernel) (Nat.le_of_ble_eq_true rfl) ?_
  have hn2 := hq.n2
  refine r_go (fun kk => e_lvs (lv' := [(0, .ref (Y.1 0)), (1, .int (nI l))]) rfl kk) ?_
  refine r_go (fun kk => e_iload_n 1 dX0_addLock_0 rfl kk) ?_
  refine r_go (fun kk => e_if_lt 17 dX0_addLock_1 (by decide) (fun h => absurd h (nI_pos (by omega))) (fun _ => kk)) ?_
  refine r_go (fun kk => e_iload_n 1 dX0_addLock_4 rfl kk) ?_
  refine r_go (fun kk => e_bipush (v := nI 100) dX0_addLock_5 (by decide) kk) ?_
  refine r_go (fun kk => e_icmp_geN 17 dX0_addLock_7 (by decide) (by omega) (by omega) (fun h => absurd h (by omega)) (fun _ => kk)) ?_
  refine r_go (fun kk => e_aload_n 0 dX0_addLock_10 rfl kk) ?_
  refine r_go (fun kk => e_getP (some (Y.1 5)) dX0_addLock_11 fl_X0_30 rfl (hq.T 0 (by decide)) (hq.1.2.2.1.2.2.2.1) kk) ?_
  refine r_go (fun kk => e_iload_n 1 dX0_addLock_14 rfl kk) ?_
  refine r_go (fun kk => e_ic ((-1)) dX0_addLock_15 (by decide) kk) ?_
  refine r_go (fun kk => e_iastN _ dX0_addLock_16 (hq.T 5 (by decide)) (by rw [hq.1.2.1.2.2.1]; exact (by omega)) (by rw [hq.1.2.1.2.2.1]; decide) rfl kk) ?_
  refine r_gen (fun mm => KQ Z mm Y ρ (upd kf (240 + l) (-1)) vf n) (hq.ho hρ (by omega)) (fun m1 hq1 => ?_)
  exact r_ret (⟨rfl, hq1⟩) (e_retV dX0_addLock_17 rfl rfl)

set_option maxRecDepth 100000 in
set_option maxHeartbeats 4000000 in
theorem k_ringBell (hq : KQ Z m Y ρ kf vf n) (hρ : 62000 ≤ ρ) (b : Int32) : EvC G 1 uX0_ringBell [.ref (Y.1 0), .int b] m (fun r mm => ∃ c, r = some (.int (nI c)) ∧ c = (rgF kf b).2 ∧ KQ Z mm Y ρ (rgF kf b).1 vf n) := by
  refine EvC.of (by decide +kernel) (Nat.le_of_ble_eq_true rfl) ?_
  have hn2 := hq.n2
  have L : ∀ (k i : Nat) (M : Mem) (c : Nat) (K : KF), i + k = n → KQ Z M Y ρ K vf n ∧ (K, c) = lp (rgS b) i (kf, 0) → EvR G 1 uX0_ringBell (zz m) (nn m) (fun r mm => ∃ c, r = some (.int (nI c)) ∧ c = (rgF kf b).2 ∧ KQ Z mm Y ρ (rgF kf b).1 vf n) 4 [(3, .int (nI i)), (2, .int (nI c)), (0, .ref (Y.1 0)), (1, .int b)] [] M := by
    intro k
    induction k with
    | zero =>
      intro i M c K hi hI
      refine r_go (fun kk => e_iload_n 0 dX0_ringBell_4 rfl kk) ?_
      refine r_go (fun kk => e_aload_n 2 dX0_ringBell_5 rfl kk) ?_
      refine r_go (fun kk => e_getIv (nI n) dX0_ringBell_6 fl_X0_43 rfl (hI.1.T 0 (by decide)) hI.1.n7 kk) ?_
      refine r_go (fun kk => e_icmp_geN 52 dX0_ringBell_9 (by decide) (by omega) (by omega) (fun _ => kk) (fun h => absurd h (by omega))) ?_
      refine r_go (fun kk => e_iload_n 1 dX0_ringBell_52 rfl kk) ?_
      have e2 : lp (rgS b) n (kf, 0) = (K, c) := by rw [← show i = n by omega, hI.2]
      exact r_ret ⟨c, rfl, by rw [rgF, nT_of hq.n1 hn2, e2], by rw [rgF, nT_of hq.n1 hn2, e2]; exact hI.1⟩ (e_retI dX0_ringBell_53 rfl rfl rfl)
    | succ k ih =>
      intro i M c K hi hI
      refine r_go (fun kk => e_iload_n 0 dX0_ringBell_4 rfl kk) ?_
      refine r_go (fun kk => e_aload_n 2 dX0_ringBell_5 rfl kk) ?_
      refine r_go (fun kk => e_getIv (nI n) dX0_ringBell_6 fl_X0_43 rfl (hI.1.T 0 (by decide)) hI.1.n7 kk) ?_
      refine r_go (fun kk => e_icmp_geN 52 dX0_ringBell_9 (by decide) (by omega) (by omega) (fun h => absurd h (by omega)) (fun _ => kk)) ?_
      refine r_go (fun kk => e_aload_n 2 dX0_ringBell_12 rfl kk) ?_
      refine r_go (fun kk => e_getP (some (Y.1 1)) dX0_ringBell_13 fl_X0_11 rfl (hI.1.T 0 (by decide)) (hI.1.1.2.2.1.1) kk) ?_
      refine r_go (fun kk => e_iload_n 0 dX0_ringBell_16 rfl kk) ?_
      refine r_go (fun kk => e_aaldN (some (Y.1 (9 + i))) dX0_ringBell_17 (hI.1.T 1 (by decide)) (Or.inr rfl) (by rw [hI.1.1.2.1.1]; exact (by omega)) (by rw [hI.1.1.2.1.1]; decide) (hI.1.pt (by omega)) kk) ?_
      refine r_go (fun kk => e_astore (lv' := [(4, .ref (Y.1 (9 + i))), (3, .int (nI i)), (2, .int (nI c)), (0, .ref (Y.1 0)), (1, .int b)]) dX0_ringBell_18 (by decide) rfl kk) ?_
      refine r_go (fun kk => e_aload 0 dX0_ringBell_20 rfl kk) ?_
      refine r_go (fun kk => e_getIv (kg K i 6) dX0_ringBell_22 fl_X0_93 rfl (hI.1.Tt (by omega)) (hI.1.gt (by omega) 6 _ (by decide) rfl) kk) ?_
      refine r_go (fun kk => e_ic (nI 2) dX0_ringBell_25 (by decide) kk) ?_
      refine r_go (fun kk => e_iv (w := 2) rfl kk) ?_
      refine r_b2 (fun ka kb => e_icmp_ne 46 dX0_ringBell_26 (by decide) ka kb) (fun q1 => ?_) (fun q1 => ?_)
      · skip
        refine r_go (fun kk => e_iinc1N (lv' := [(3, .int (nI (i + 1))), (4, .ref (Y.1 (9 + i))), (2, .int (nI c)), (0, .ref (Y.1 0)), (1, .int b)]) 1 dX0_ringBell_46 rfl (by decide) rfl kk) ?_
        refine r_go (fun kk => e_goto 4 dX0_ringBell_49 (by decide) kk) ?_
        refine r_go (fun kk => e_sub [0, 2, 3, 4] rfl kk) ?_
        exact ih (i + 1) M c K (by omega) ⟨hI.1, by show _ = rgS b i (lp (rgS b) i (kf, 0)); rw [← hI.2, rgS]; dsimp only; rw [if_neg (fun h => q1 h.1)]⟩
      · skip
        refine r_go (fun kk => e_aload 0 dX0_ringBell_29 rfl kk) ?_
        refine r_go (fun kk => e_getIv (kg K i 7) dX0_ringBell_31 fl_X0_115 rfl (hI.1.Tt (by omega)) (hI.1.gt (by omega) 7 _ (by decide) rfl) kk) ?_
        refine r_go (fun kk => e_iload_n 4 dX0_ringBell_34 rfl kk) ?_
        refine r_b2 (fun ka kb => e_icmp_ne 46 dX0_ringBell_35 (by decide) ka kb) (fun q2 => ?_) (fun q2 => ?_)
        · skip
          refine r_go (fun kk => e_iinc1N (lv' := [(3, .int (nI (i + 1))), (4, .ref (Y.1 (9 + i))), (2, .int (nI c)), (0, .ref (Y.1 0)), (1, .int b)]) 1 dX0_ringBell_46 rfl (by decide) rfl kk) ?_
          refine r_go (fun kk => e_goto 4 dX0_ringBell_49 (by decide) kk) ?_
          refine r_go (fun kk => e_sub [0, 2, 3, 4] rfl kk) ?_
          exact ih (i + 1) M c K (by omega) ⟨hI.1, by show _ = rgS b i (lp (rgS b) i (kf, 0)); rw [← hI.2, rgS]; dsimp only; rw [if_neg (fun h => q2 h.2)]⟩
        · skip
          refine r_go (fun kk => e_aload 0 dX0_ringBell_38 rfl kk) ?_
          obtain ⟨_, m1, ⟨rfl, hz1⟩, E1x40⟩ := k_wake (G := G) hI.1 hρ (t := i) (by omega)
          refine r_go (fun kk => e_callV (ci := 4) (st := []) (st1 := []) (As := []) (E1x40) dX0_ringBell_40 (by decide) cm_X4_wake lk_X0_118 im_X4_wake rfl sel_X4_wake (hI.1.Tt (by omega)) rfl rfl (Nat.le_of_ble_eq_true rfl) rfl kk) ?_
          refine r_go (fun kk => e_iinc1N (lv' := [(2, .int (nI (c + 1))), (4, .ref (Y.1 (9 + i))), (3, .int (nI i)), (0, .ref (Y.1 0)), (1, .int b)]) 2 dX0_ringBell_43 rfl (by decide) rfl kk) ?_
          refine r_go (fun kk => e_iinc1N (lv' := [(3, .int (nI (i + 1))), (2, .int (nI (c + 1))), (4, .ref (Y.1 (9 + i))), (0, .ref (Y.1 0)), (1, .int b)]) 2 dX0_ringBell_46 rfl (by decide) rfl kk) ?_
          refine r_go (fun kk => e_goto 4 dX0_ringBell_49 (by decide) kk) ?_
          refine r_go (fun kk => e_sub [0, 1, 3, 4] rfl kk) ?_
          exact ih (i + 1) m1 (c + 1) (rdy K i) (by omega) ⟨hz1, by show _ = rgS b i (lp (rgS b) i (kf, 0)); rw [← hI.2, rgS]; dsimp only; rw [if_pos ⟨q1, q2⟩]⟩
  refine r_go (fun kk => e_lvs (lv' := [(0, .ref (Y.1 0)), (1, .int b)]) rfl kk) ?_
  refine r_go (fun kk => e_ic (nI 0) dX0_ringBell_0 (by decide) kk) ?_
  refine r_go (fun kk => e_istore_n (lv' := [(2, .int (nI 0)), (0, .ref (Y.1 0)), (1, .int b)]) dX0_ringBell_1 (by decide) rfl kk) ?_
  refine r_go (fun kk => e_ic (nI 0) dX0_ringBell_2 (by decide) kk) ?_
  refine r_go (fun kk => e_istore_n (lv' := [(3, .int (nI 0)), (2, .int (nI 0)), (0, .ref (Y.1 0)), (1, .int b)]) dX0_ringBell_3 (by decide) rfl kk) ?_
  refine r_go (fun kk => e_sub [0, 1, 2, 3] rfl kk) ?_
  exact L n 0 m 0 kf (by omega) ⟨hq, rfl⟩

end Class2
