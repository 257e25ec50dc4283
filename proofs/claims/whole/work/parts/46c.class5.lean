/-! the class: programs and rows -/
theorem bvl (v : BitVec 64) (s : Nat) (h : s ≤ 56) : BitVec.signExtend 8 (v >>> s) = BitVec.signExtend 8 (v.sshiftRight s) := by
  apply BitVec.eq_of_getLsbD_eq
  intro i hi
  rw [BitVec.getLsbD_signExtend, BitVec.getLsbD_signExtend, BitVec.getLsbD_ushiftRight, BitVec.getLsbD_sshiftRight]
  simp [hi, show i < 64 by omega, show s + i < 64 by omega]
theorem byt_u (e : Int64) {i : Nat} (h : i < 8) : ((e.toUInt64 >>> ((nI (56 - 8 * i)).toInt64.toUInt64 &&& Int64.toUInt64 63)).toInt64).toInt32.toInt8.toInt32 = byt e i := by
  unfold byt
  congr 1
  rw [Int64.toInt8_toInt32, Int64.toInt8_toInt32]
  apply Int8.toBitVec_inj.mp
  rw [Int64.toBitVec_toInt8, Int64.toBitVec_toInt8]
  rcases (show i = 0 ∨ i = 1 ∨ i = 2 ∨ i = 3 ∨ i = 4 ∨ i = 5 ∨ i = 6 ∨ i = 7 by omega) with rfl | rfl | rfl | rfl | rfl | rfl | rfl | rfl
  · exact bvl e.toBitVec 56 (by omega)
  · exact bvl e.toBitVec 48 (by omega)
  · exact bvl e.toBitVec 40 (by omega)
  · exact bvl e.toBitVec 32 (by omega)
  · exact bvl e.toBitVec 24 (by omega)
  · exact bvl e.toBitVec 16 (by omega)
  · exact bvl e.toBitVec 8 (by omega)
  · exact bvl e.toBitVec 0 (by omega)
theorem mx_len2 {kf : KF} (h : LN kf) {p : Nat} (hp : p < 32) : mxI (nI 0) (kf (340 + p)) = nI (plen kf p) := by
  unfold plen mxI
  rcases h p hp with h | ⟨c, hc, h⟩
  · rw [h]
    decide
  · rw [h, nI_clamp (by omega)]
    by_cases z : c = 0
    · subst z
      rfl
    · rw [if_pos (nI_lt (by omega) (by omega))]
theorem ln_of {kf : KF} (h : LN kf) {p : Nat} (hp : p < 32) (h0 : ¬ kf (340 + p) < 0) : kf (340 + p) = nI (plen kf p) := by
  unfold plen
  rcases h p hp with h | ⟨c, hc, h⟩
  · rw [h] at h0
    exact absurd (by decide) h0
  · rw [h, nI_clamp (by omega)]
section Class5
variable {G : GG} {Z : Mem × YY} {m : Mem} {Y : YY} {ρ n : Nat} {kf : KF} {vf : VF}

set_option maxRecDepth 100000 in
set_option maxHeartbeats 4000000 in
theorem k_length (hq : KQ Z m Y ρ kf vf n) {p : Nat} (hp : p < 32) (hL : LN kf) : Ev G 1 uX2_length [.ref (Y.1 (209 + p))] m (some (.int (nI (plen kf p)))) m := by
  refine Ev.of (by decide +kernel) (Nat.le_of_ble_eq_true rfl) ?_
  refine e_lvs (lv' := [(0, .ref (Y.1 (209 + p)))]) rfl ?_
  refine e_ic (nI 0) dX2_length_0 (by decide) ?_
  refine e_aload_n 0 dX2_length_1 rfl ?_
  refine e_getIv (kf (340 + p)) dX2_length_2 fl_X2_9 rfl (hq.Tp (by omega)) (hq.2.1.2.2.1 p (by omega)).1 ?_
  refine e_jmax dX2_length_5 lkm_X2_19 (Nat.le_of_ble_eq_true rfl) ?_
  exact e_retI dX2_length_8 rfl rfl (by rw [mx_len2 hL hp]) rfl

set_option maxRecDepth 100000 in
set_option maxHeartbeats 4000000 in
theorem k_byteAt (hq : KQ Z m Y ρ kf vf n) {p a : Nat} (hp : p < 32) (hl : kf (340 + p) = nI (plen kf p)) (hl2 : plen kf p ≤ 1000) (ha : a < plen kf p) : Ev G 0 uX2_byteAt [.ref (Y.1 (209 + p)), .int (nI a)] m (some (.int (kf (30000 + 1000 * p + a)))) m := by
  refine Ev.of (by decide +kernel) (Nat.le_of_ble_eq_true rfl) ?_
  refine e_lvs (lv' := [(0, .ref (Y.1 (209 + p))), (1, .int (nI a))]) rfl ?_
  refine e_iload_n 1 dX2_byteAt_0 rfl ?_
  refine e_if_lt 21 dX2_byteAt_1 (by decide) (fun h => absurd h (nI_pos (by omega))) (fun _ => ?_)
  refine e_iload_n 1 dX2_byteAt_4 rfl ?_
  refine e_aload_n 0 dX2_byteAt_5 rfl ?_
  refine e_getIv (kf (340 + p)) dX2_byteAt_6 fl_X2_9 rfl (hq.Tp (by omega)) (hq.2.1.2.2.1 p (by omega)).1 (e_iv (w := nI (plen kf p)) (hl) ?_)
  refine e_icmp_geN 21 dX2_byteAt_9 (by decide) (by omega) (by omega) (fun h => absurd h (by omega)) (fun _ => ?_)
  refine e_aload_n 0 dX2_byteAt_12 rfl ?_
  refine e_getP (some (Y.1 (241 + p))) dX2_byteAt_13 fl_X2_15 rfl (hq.Tp (by omega)) ((hq.1.2.2.2.1 p (by omega)).2.1) ?_
  refine e_iload_n 1 dX2_byteAt_16 rfl ?_
  refine e_baldN (kf (30000 + 1000 * p + a)) dX2_byteAt_17 (hq.Tb (by omega)) (Nat.lt_of_lt_of_le ha (hq.2.1.2.2.1 p hp).2.1) (by have := (hq.1.2.2.2.1 p hp).2.2; unfold LB at this; omega) ((hq.2.1.2.2.1 p hp).2.2 a ha) ?_
  refine e_goto 22 dX2_byteAt_18 (by decide) ?_
  exact e_retI dX2_byteAt_22 rfl rfl rfl

theorem pgB_at (kf : KF) (p h : Nat) (e : Int64) : ∀ b j, ¬ (30000 + 1000 * p + h ≤ j ∧ j < 30000 + 1000 * p + h + b) → progB kf p h e b j = kf j := by
  intro b
  induction b with
  | zero => intro j _; rfl
  | succ b ih =>
    intro j hj
    show upd (progB kf p h e b) (30000 + 1000 * p + h + b) (byt e b) j = kf j
    rw [upd_ne _ _ (by omega)]
    exact ih j (by omega)
theorem pgB_in (kf : KF) (p h : Nat) (e : Int64) : ∀ b j, j < b → progB kf p h e b (30000 + 1000 * p + h + j) = byt e j := by
  intro b
  induction b with
  | zero => intro j hj; exact absurd hj (Nat.not_lt_zero _)
  | succ b ih =>
    intro j hj
    show upd (progB kf p h e b) (30000 + 1000 * p + h + b) (byt e b) (30000 + 1000 * p + h + j) = byt e j
    by_cases z : j = b
    · subst z
      exact upd_eq _ _ _
    · rw [upd_ne _ _ (by omega)]
      exact ih j (by omega)
set_option maxRecDepth 100000 in
set_option maxHeartbeats 4000000 in
theorem k_extend (hq : KQ Z m Y ρ kf vf n) (hρ : 62000 ≤ ρ) {p b : Nat} (hp : p < 32) (hL : LN kf) (hb : b ≤ 8) (e : Int64) (hs : plen kf p + b ≤ 1000) : EvC G 2 uX2_extend [.ref (Y.1 (209 + p)), .long e, .int (nI b)] m (fun r mm => r = some (.int (nI (plen kf p + b))) ∧ ∃ Y2, Sm Y Y2 ∧ KQ Z mm Y2 ρ (upd (progB kf p (plen kf p) e b) (340 + p) (nI (plen kf p + b))) vf n) := by
  refine EvC.of (by decide +kernel) (Nat.le_of_ble_eq_true rfl) ?_
  have C : ∀ (m1 : Mem) (Y1 : YY), Sm Y Y1 → KQ Z m1 Y1 ρ kf vf n → plen kf p + b ≤ gN m1 (Y1.1 (241 + p)) → EvR G 2 uX2_extend (zz m) (nn m) (fun r mm => r = some (.int (nI (plen kf p + b))) ∧ ∃ Y2, Sm Y Y2 ∧ KQ Z mm Y2 ρ (upd (progB kf p (plen kf p) e b) (340 + p) (nI (plen kf p + b))) vf n) 64 [(0, .ref (Y1.1 (209 + p))), (1, .long e), (3, .int (nI b)), (4, .int (nI (plen kf p)))] [] m1 := by
    intro m1 Y1 hS hq1 hN1
    have L : ∀ (k i : Nat) (M : Mem), i + k = b → KQ Z M Y1 ρ kf vf n ∧ plen kf p + b ≤ gN M (Y1.1 (241 + p)) ∧ (∀ q, q < i → aI M (Y1.1 (241 + p)) (plen kf p + q) = byt e q) → EvR G 2 uX2_extend (zz m) (nn m) (fun r mm => r = some (.int (nI (plen kf p + b))) ∧ ∃ Y2, Sm Y Y2 ∧ KQ Z mm Y2 ρ (upd (progB kf p (plen kf p) e b) (340 + p) (nI (plen kf p + b))) vf n) 67 [(5, .int (nI i)), (0, .ref (Y1.1 (209 + p))), (1, .long e), (3, .int (nI b)), (4, .int (nI (plen kf p)))] [] M := by
      intro k
      induction k with
      | zero =>
        intro i M hi hI
        have hib : i = b := by omega
        subst hib
        refine r_go (fun kk => e_iload 0 dX2_extend_67 rfl kk) ?_
        refine r_go (fun kk => e_iload_n 3 dX2_extend_69 rfl kk) ?_
        refine r_go (fun kk => e_icmp_geN 101 dX2_extend_70 (by decide) (by omega) (by omega) (fun _ => kk) (fun h => absurd h (by omega))) ?_
        refine r_go (fun kk => e_aload_n 1 dX2_extend_101 rfl kk) ?_
        refine r_go (fun kk => e_iload 4 dX2_extend_102 rfl kk) ?_
        refine r_go (fun kk => e_iload_n 3 dX2_extend_104 rfl kk) ?_
        refine r_go (fun kk => e_iaddN dX2_extend_105 kk) ?_
        refine r_go (fun kk => e_putI (ci := 2) (k := 0) dX2_extend_106 fl_X2_9 rfl (fun q h => by cases h; rfl) ⟨rfl, rfl⟩ (hI.1.Tp (by omega)) kk) ?_
        refine r_gen (fun mm => KQ Z mm Y1 ρ (upd (progB kf p (plen kf p) e i) (340 + p) (nI (plen kf p + i))) vf n) (hI.1.psz hρ hp (by rw [nI_clamp (by omega)]; exact hI.2.1) (fun j h1 h2 => ?_) (upd_eq _ _ _) (fun j hj => ?_)) (fun m3 hq3 => ?_)
        · rw [upd_ne _ _ h1]
          exact pgB_at _ _ _ _ i _ (by omega)
        · rw [nI_clamp (by omega)] at hj
          rw [upd_ne _ _ (by omega)]
          by_cases z : j < plen kf p
          · rw [pgB_at _ _ _ _ i _ (by omega)]
            exact (hI.1.2.1.2.2.1 p hp).2.2 j z
          · have := hI.2.2 (j - plen kf p) (by omega)
            rw [show plen kf p + (j - plen kf p) = j by omega] at this
            rw [this, show 30000 + 1000 * p + j = 30000 + 1000 * p + plen kf p + (j - plen kf p) by omega, pgB_in _ _ _ _ i _ (by omega)]
        refine r_go (fun kk => e_aload_n 1 dX2_extend_109 rfl kk) ?_
        refine r_go (fun kk => e_getIv ((upd (progB kf p (plen kf p) e i) (340 + p) (nI (plen kf p + i))) (340 + p)) dX2_extend_110 fl_X2_9 rfl (hq3.Tp (by omega)) (hq3.2.1.2.2.1 p (by omega)).1 (e_iv (w := nI (plen kf p + i)) (upd_eq _ _ _) kk)) ?_
        exact r_ret ⟨rfl, Y1, hS, hq3⟩ (e_retI dX2_extend_113 rfl rfl rfl)
      | succ k ih =>
        intro i M hi hI
        refine r_go (fun kk => e_iload 0 dX2_extend_67 rfl kk) ?_
        refine r_go (fun kk => e_iload_n 3 dX2_extend_69 rfl kk) ?_
        refine r_go (fun kk => e_icmp_geN 101 dX2_extend_70 (by decide) (by omega) (by omega) (fun h => absurd h (by omega)) (fun _ => kk)) ?_
        refine r_go (fun kk => e_aload_n 1 dX2_extend_73 rfl kk) ?_
        refine r_go (fun kk => e_getP (some (Y1.1 (241 + p))) dX2_extend_74 fl_X2_15 rfl (hI.1.Tp (by omega)) ((hI.1.1.2.2.2.1 p (by omega)).2.1) kk) ?_
        refine r_go (fun kk => e_iload 4 dX2_extend_77 rfl kk) ?_
        refine r_go (fun kk => e_iload 0 dX2_extend_79 rfl kk) ?_
        refine r_go (fun kk => e_iaddN dX2_extend_81 kk) ?_
        refine r_go (fun kk => e_lload_n 2 dX2_extend_82 rfl kk) ?_
        refine r_go (fun kk => e_bipush (v := nI 56) dX2_extend_83 (by decide) kk) ?_
        refine r_go (fun kk => e_bipush (v := nI 8) dX2_extend_85 (by decide) kk) ?_
        refine r_go (fun kk => e_iload 0 dX2_extend_87 rfl kk) ?_
        refine r_go (fun kk => e_imulN dX2_extend_89 kk) ?_
        refine r_go (fun kk => e_isubN dX2_extend_90 (by omega) kk) ?_
        refine r_go (fun kk => e_lushr dX2_extend_91 kk) ?_
        refine r_go (fun kk => e_l2i dX2_extend_92 kk) ?_
        refine r_go (fun kk => e_i2b dX2_extend_93 kk) ?_
        refine r_go (fun kk => e_iv (v := ((((e.toUInt64 >>> ((nI (56 - (8 * i))).toInt64.toUInt64 &&& Int64.toUInt64 63)).toInt64).toInt32).toInt8.toInt32)) (w := byt e i) (byt_u e (by omega)) kk) ?_
        refine r_go (fun kk => e_bastN (y := byt e i) _ dX2_extend_94 (hI.1.Tb (by omega)) (by omega) (by have := (hI.1.1.2.2.2.1 p hp).2.2; unfold LB at this; omega) (nar_b _) rfl kk) ?_
        refine r_gen (fun mm => KQ Z mm Y1 ρ kf vf n ∧ gN mm (Y1.1 (241 + p)) = gN M (Y1.1 (241 + p)) ∧ ∀ q, q < i + 1 → aI mm (Y1.1 (241 + p)) (plen kf p + q) = byt e q) ⟨hI.1.bx hρ hp (by omega) ⟨_, rfl⟩, rfl, fun q hq2 => ?_⟩ (fun M1 hI1 => ?_)
        · by_cases z : q = i
          · subst z
            exact u2_eq _ _ _ _
          · exact (u2_na _ _ (by omega)).trans (hI.2.2 q (by omega))
        refine r_go (fun kk => e_iinc1N (lv' := [(5, .int (nI (i + 1))), (0, .ref (Y1.1 (209 + p))), (1, .long e), (3, .int (nI b)), (4, .int (nI (plen kf p)))]) 0 dX2_extend_95 rfl (by decide) rfl kk) ?_
        refine r_go (fun kk => e_goto 67 dX2_extend_98 (by decide) kk) ?_
        refine r_go (fun kk => e_sub [0, 1, 2, 3, 4] rfl kk) ?_
        exact ih (i + 1) M1 (by omega) ⟨hI1.1, by rw [hI1.2.1]; exact hI.2.1, hI1.2.2⟩
    refine r_go (fun kk => e_ic (nI 0) dX2_extend_64 (by decide) kk) ?_
    refine r_go (fun kk => e_istore (lv' := [(5, .int (nI 0)), (0, .ref (Y1.1 (209 + p))), (1, .long e), (3, .int (nI b)), (4, .int (nI (plen kf p)))]) dX2_extend_65 (by decide) rfl kk) ?_
    refine r_go (fun kk => e_sub [0, 1, 2, 3, 4] rfl kk) ?_
    exact L b 0 m1 (by omega) ⟨hq1, hN1, fun q hq => absurd hq (Nat.not_lt_zero _)⟩
  have hl8 := plen_le hL hp
  refine r_go (fun kk => e_lvs (lv' := [(0, .ref (Y.1 (209 + p))), (1, .long e), (3, .int (nI b))]) rfl kk) ?_
  refine r_go (fun kk => e_aload_n 0 dX2_extend_0 rfl kk) ?_
  refine r_go (fun kk => e_callV (ci := 2) (st := []) (st1 := [.int (nI (plen kf p))]) (As := []) (k_length hq hp hL) dX2_extend_1 (by decide) cm_X2_length lk_X2_31 im_X2_length rfl sel_X2_length (hq.Tp (by omega)) rfl rfl (Nat.le_of_ble_eq_true rfl) rfl kk) ?_
  refine r_go (fun kk => e_istore (lv' := [(4, .int (nI (plen kf p))), (0, .ref (Y.1 (209 + p))), (1, .long e), (3, .int (nI b))]) dX2_extend_4 (by decide) rfl kk) ?_
  refine r_go (fun kk => e_iload_n 3 dX2_extend_6 rfl kk) ?_
  refine r_go (fun kk => e_if_lt 26 dX2_extend_7 (by decide) (fun h => absurd h (nI_pos (by omega))) (fun _ => kk)) ?_
  refine r_go (fun kk => e_iload_n 3 dX2_extend_10 rfl kk) ?_
  refine r_go (fun kk => e_bipush (v := nI 8) dX2_extend_11 (by decide) kk) ?_
  refine r_go (fun kk => e_icmp_gtN 26 dX2_extend_13 (by decide) (by omega) (by omega) (fun h => absurd h (by omega)) (fun _ => kk)) ?_
  refine r_go (fun kk => e_iload 0 dX2_extend_16 rfl kk) ?_
  refine r_go (fun kk => e_iload_n 3 dX2_extend_18 rfl kk) ?_
  refine r_go (fun kk => e_iaddN dX2_extend_19 kk) ?_
  refine r_go (fun kk => e_sipush (v := nI 1000) dX2_extend_20 (by decide) kk) ?_
  refine r_go (fun kk => e_icmp_leN 28 dX2_extend_23 (by decide) (by omega) (by omega) (fun _ => kk) (fun h => absurd h (by omega))) ?_
  refine r_go (fun kk => e_iload 0 dX2_extend_28 rfl kk) ?_
  refine r_go (fun kk => e_iload_n 3 dX2_extend_30 rfl kk) ?_
  refine r_go (fun kk => e_iaddN dX2_extend_31 kk) ?_
  refine r_go (fun kk => e_aload_n 1 dX2_extend_32 rfl kk) ?_
  refine r_go (fun kk => e_getP (some (Y.1 (241 + p))) dX2_extend_33 fl_X2_15 rfl (hq.Tp (by omega)) ((hq.1.2.2.2.1 p (by omega)).2.1) kk) ?_
  refine r_go (fun kk => e_alen (n := nI (gN m (Y.1 (241 + p)))) dX2_extend_36 (hq.Tb (by omega)) (by omega) rfl kk) ?_
  refine r_bl (fun ka kb => e_icmp_leN 64 dX2_extend_37 (by decide) (by omega) (by have := (hq.1.2.2.2.1 p hp).2.2; unfold LB at this; omega) ka kb) (fun h37 => ?_) (fun h37 => ?_)
  · skip
    have h37' := Nat.not_lt.mpr h37
    refine r_go (fun kk => e_sub [1, 2, 3, 0] rfl kk) ?_
    exact C m Y (Sm.rf Y) hq h37
  · skip
    have h37' := Nat.not_le.mpr h37
    have hlb0 := (hq.1.2.2.2.1 p hp).2.2
    have hpl := (hq.2.1.2.2.1 p hp).2.1
    have hz := (hq.1.1 (241 + p) (by omega)).2.2
    obtain ⟨N, hN1, hN2, hlb, hmin, hN8⟩ : ∃ N, gN m (Y.1 (241 + p)) < N ∧ N ≤ 1000 ∧ LB N (Y.2.2.1 (241 + p) + N) ∧ mnI (nI (2 * gN m (Y.1 (241 + p)))) (nI 1000) = nI N ∧ plen kf p + b ≤ N := by
      unfold LB at hlb0
      rcases hlb0 with ⟨q1, q2⟩ | ⟨q1, q2⟩ | ⟨q1, q2⟩ | ⟨q1, q2⟩ | ⟨q1, q2⟩ | ⟨q1, q2⟩
      · exact ⟨64, by omega, by omega, by unfold LB; omega, by rw [q1]; rfl, by omega⟩
      · exact ⟨128, by omega, by omega, by unfold LB; omega, by rw [q1]; rfl, by omega⟩
      · exact ⟨256, by omega, by omega, by unfold LB; omega, by rw [q1]; rfl, by omega⟩
      · exact ⟨512, by omega, by omega, by unfold LB; omega, by rw [q1]; rfl, by omega⟩
      · exact ⟨1000, by omega, by omega, by unfold LB; omega, by rw [q1]; rfl, by omega⟩
      · omega
    refine r_go (fun kk => e_aload_n 1 dX2_extend_40 rfl kk) ?_
    refine r_go (fun kk => e_aload_n 1 dX2_extend_41 rfl kk) ?_
    refine r_go (fun kk => e_getP (some (Y.1 (241 + p))) dX2_extend_42 fl_X2_15 rfl (hq.Tp (by omega)) ((hq.1.2.2.2.1 p (by omega)).2.1) kk) ?_
    refine r_go (fun kk => e_ic (nI 2) dX2_extend_45 (by decide) kk) ?_
    refine r_go (fun kk => e_aload_n 1 dX2_extend_46 rfl kk) ?_
    refine r_go (fun kk => e_getP (some (Y.1 (241 + p))) dX2_extend_47 fl_X2_15 rfl (hq.Tp (by omega)) ((hq.1.2.2.2.1 p (by omega)).2.1) kk) ?_
    refine r_go (fun kk => e_alen (n := nI (gN m (Y.1 (241 + p)))) dX2_extend_50 (hq.Tb (by omega)) (by omega) rfl kk) ?_
    refine r_go (fun kk => e_imulN dX2_extend_51 kk) ?_
    refine r_go (fun kk => e_sipush (v := nI 1000) dX2_extend_52 (by decide) kk) ?_
    refine r_go (fun kk => e_jmin dX2_extend_55 lkm_X2_35 (Nat.le_of_ble_eq_true rfl) kk) ?_
    refine r_go (fun kk => e_iv (w := nI N) hmin kk) ?_
    refine r_go (fun kk => e_callS (st := [.ref (Y.1 (209 + p))]) (st1 := [.ref (zz m), .ref (Y.1 (209 + p))]) (As := [.ref (Y.1 (241 + p)), .int (nI N)]) (a_copyB (G := G) (N := N) (hq.Tb (by omega)) hz (by omega) (by omega) (fun j => hq.2.2.2.2.2.2.2.1 _ _ (hq.1.1 (241 + p) (by omega)).2.2 (hq.1.ow (r := 241 + p) (by omega)) (by omega) (by omega) j)) dX2_extend_58 (by decide) cm_J7_copyOf_9075b lk_X2_38 sm_J7_copyOf_9075b rfl rfl (Nat.le_of_ble_eq_true rfl) rfl kk) ?_
    refine r_go (fun kk => e_putP (ci := 2) (k := 1) (some (zz m)) dX2_extend_61 fl_X2_15 rfl (fun q h => by cases h; rfl) ⟨rfl, rfl⟩ rfl (show gT (nw m 11 N) (Y.1 (209 + p)) = 3 from (vu_ne _ _ (Nat.ne_of_lt (hq.1.1 (209 + p) (by omega)).2.2)).trans (hq.Tp (by omega))) kk) ?_
    have hg := hq.grow (r0 := 241 + p) (rw := 209 + p) (fw := 41) (ty := 11) (N := N) (g := va_cpy (aI m (Y.1 (241 + p))) (aI (nw m 11 N) (zz m)) 0 0 (gN m (Y.1 (241 + p)))) (by omega) (Or.inr (Or.inl ⟨p, hp, rfl, rfl, rfl, rfl, by omega, hlb, fun i hi => by rw [va_cpy, if_pos (by omega), Nat.sub_zero, Nat.zero_add], fun i => ?_⟩))
    · refine r_gen (fun mm => ∃ Y1, Sm Y Y1 ∧ KQ Z mm Y1 ρ kf vf n ∧ plen kf p + b ≤ gN mm (Y1.1 (241 + p))) ⟨_, hg.2, hg.1, by rw [gY_e]; exact Nat.le_trans hN8 (Nat.le_of_eq gw_Nn.symm)⟩ (fun m1 hx => ?_)
      obtain ⟨Y1, hS, hq1, hp1⟩ := hx
      refine r_go (fun kk => e_lvs (lv' := [(4, .int (nI (plen kf p))), (0, .ref (Y1.1 (209 + p))), (1, .long e), (3, .int (nI b))]) (by rw [hS (209 + p) (by omega)]) kk) ?_
      refine r_go (fun kk => e_sub [1, 2, 3, 0] rfl kk) ?_
      exact C m1 Y1 hS hq1 hp1
    · unfold va_cpy
      split
      · exact hq.2.2.2.2.2.2.2.1 _ _ (hq.1.1 (241 + p) (by omega)).2.2 (hq.1.ow (r := 241 + p) (by omega)) (by omega) (by omega) _
      · refine ⟨0, ?_⟩
        show zr (aI m) (zz m) 0 (zz m) i = _
        unfold zr
        rw [if_pos rfl]
        rfl

end Class5
