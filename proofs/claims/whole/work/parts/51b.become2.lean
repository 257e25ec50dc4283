/-! the class: a task becomes another -/
theorem KU.shq {Z : Mem × YY} {m : Mem} {Y : YY} (h : KU Z m Y) {t : Nat} (ht : t < 200) (hp : gP m 97 (Y.1 (9 + t)) = some (Y.1 (273 + t))) : gT m (Y.1 (273 + t)) = 14 ∧ gN m (Y.1 (273 + t)) = 127 ∧ Y.2.2.2 (Y.1 (273 + t)) = Y.2.1 + (273 + t) ∧ Y.1 (273 + t) < zz m := by
  rcases (h.1.2.2.2.2.1 t ht).2.2 with y | y
  · rw [hp] at y
    cases y.1
  · exact y.2.2
def TBd (m : Mem) (Y : YY) (kf : KF) (vf : VF) (i k : Nat) (M : Mem) : Prop := KU (m, Y) M Y ∧ FS (Sq Y.2.1 i) m Y.2.2.2 M Y.2.2.2 ∧ (∀ w, w < k → gI M (tf w) (Y.1 (9 + i)) = kg kf i w) ∧ gL M 84 (Y.1 (9 + i)) = vf i ∧ gI M 96 (Y.1 (9 + i)) = -1
theorem bg_eqa {m : Mem} {a b : Nat} {k p s : Int32} {v : Int64} (h : b ≠ a) : Eqa m (bgM m a k p s v) b := by
  unfold bgM
  exact ((((((((((((eqa_sI h).tr (eqa_sI h)).tr (eqa_sI h)).tr (eqa_sL h)).tr (eqa_sI h)).tr (eqa_sI h)).tr (eqa_sI h)).tr (eqa_sI h)).tr (eqa_sI h)).tr (eqa_sI h)).tr (eqa_sI h)).tr (eqa_sI h))
theorem TBd.bg {m : Mem} {Y : YY} {kf : KF} {vf : VF} {i : Nat} (hu : KU (m, Y) m Y) (hi : i < 200) : TBd m Y kf vf i 3 (bgM m (Y.1 (9 + i)) (kg kf i 0) (kg kf i 1) (kg kf i 2) (vf i)) := by
  refine ⟨?_, FS.wr (a := Y.1 (9 + i)) (Or.inl (hu.1.ow (by omega))) rfl rfl rfl (fun b hb => bg_eqa hb), fun w hw => ?_, ?_, ?_⟩
  · have f : ∀ {M : Mem} {f : Nat} {x : Int32}, KU (m, Y) M Y → f ≠ 80 → KU (m, Y) (sI M f (Y.1 (9 + i)) x) Y := fun h hf => h.sI hf (by omega)
    have g : ∀ {M : Mem} {f : Nat} {x : Int64}, KU (m, Y) M Y → KU (m, Y) (sL M f (Y.1 (9 + i)) x) Y := fun h => h.sL (by omega)
    exact f (f (f (f (f (f (f (f (g (f (f (f hu (by omega)) (by omega)) (by omega))) (by omega)) (by omega)) (by omega)) (by omega)) (by omega)) (by omega)) (by omega)) (by omega)
  · rcases (show w = 0 ∨ w = 1 ∨ w = 2 by omega) with rfl | rfl | rfl <;> simp [bgM, gI_sI, gI_sL, tf]
  · simp [bgM, gL_sI, gL_sL]
  · simp [bgM, gI_sI, gI_sL]
theorem TBd.st {m M : Mem} {Y : YY} {kf : KF} {vf : VF} {i k f : Nat} (h : TBd m Y kf vf i k M) (hi : i < 200) (h3 : 3 ≤ k) (hk : k < 14) (hf : f = tf k) : TBd m Y kf vf i (k + 1) (sI M f (Y.1 (9 + i)) (kg kf i k)) := by
  obtain ⟨h1, h2, h4, h5, h6⟩ := h
  have n1 := tf_n (w := k) (by omega)
  have e96 : f ≠ 96 := by rw [hf]; unfold tf; split <;> omega
  refine ⟨h1.sI (by omega) (by omega), h2.tr (FS.wr (a := Y.1 (9 + i)) (Or.inl (h1.1.ow (by omega))) rfl rfl rfl (fun b hb => eqa_sI hb)), fun w hw => ?_, h5, (gI_nf (Ne.symm e96)).trans h6⟩
  by_cases e : w = k
  · subst e
    rw [hf]
    exact u2_eq (gI M) (tf w) _ _
  · exact (gI_nf (fun q => e (tf_inj (q.trans hf)))).trans (h4 w (by omega))
/-- the short numbers, j of them laid over -/
def TBs (m : Mem) (Y Y2 : YY) (kf : KF) (vf : VF) (i c j : Nat) (M : Mem) : Prop := Sx (273 + i) Y Y2 ∧ KU (m, Y) M Y2 ∧ FS (Sq Y.2.1 i) m Y.2.2.2 M Y2.2.2.2 ∧ gP M 97 (Y.1 (9 + i)) = some (Y2.1 (273 + i)) ∧ gI M 96 (Y.1 (9 + i)) = nI c ∧ (∀ w, w < 14 → gI M (tf w) (Y.1 (9 + i)) = kg kf i w) ∧ gL M 84 (Y.1 (9 + i)) = vf i ∧ ∀ q, q < j → aI M (Y2.1 (273 + i)) q = kf (4400 + 128 * i + q)
theorem TBs.st {m M : Mem} {Y Y2 : YY} {kf : KF} {vf : VF} {i c j : Nat} (h : TBs m Y Y2 kf vf i c j M) (hi : i < 200) {x : Int32} (hx : x = kf (4400 + 128 * i + j)) : TBs m Y Y2 kf vf i c (j + 1) (sAI M (Y2.1 (273 + i)) j x) := by
  obtain ⟨h1, h2, h3, h4, h5, h6, h7, h8⟩ := h
  have e9 : Y2.1 (9 + i) = Y.1 (9 + i) := h1 (9 + i) (by omega)
  obtain ⟨s1, s2, s3, s4⟩ := h2.shq hi (by rw [e9]; exact h4)
  refine ⟨h1, ku_aw h2 s3 (by omega), h3.tr (FS.wr (a := Y2.1 (273 + i)) (Or.inr (by rw [s3, show Y2.2.1 = Y.2.1 from h2.2.2.2.1])) rfl rfl rfl (fun b hb => eqa_sAI hb)), h4, h5, h6, h7, fun q hq => ?_⟩
  by_cases e : q = j
  · subst e
    exact (u2_eq (aI M) _ _ _).trans hx
  · exact (u2_na (aI M) _ e).trans (h8 q (by omega))
theorem i16_id {x : Int32} (h : ∃ y : Int16, x = y.toInt32) : x.toInt16.toInt32 = x := by
  obtain ⟨y, rfl⟩ := h
  rw [Int16.toInt16_toInt32]
section Class24
variable {G : GG} {m : Mem} {Y Y' : YY} {ρ n i : Nat} {kf : KF} {vf : VF}

set_option maxRecDepth 100000 in
set_option maxHeartbeats 4000000 in
theorem k_tbecome (hu : KU (m, Y) m Y) (hS : KS m Y' ρ kf vf n) (hO : Y'.2.2.2 = Y.2.2.2) (hd : ∀ c, Ow Y'.2.1 c → ¬ Ow Y.2.1 c) (hi : i < n) (hm : kg kf i 14 = -1 ∨ ∃ c, c ≤ 127 ∧ kg kf i 14 = nI c) (hH : gH kf i) : EvC G 2 uX4_become [.ref (Y.1 (9 + i)), .ref (Y'.1 (9 + i))] m (fun r mm => r = none ∧ ∃ Y2, Sx (273 + i) Y Y2 ∧ KU (m, Y) mm Y2 ∧ FS (Sq Y.2.1 i) m Y.2.2.2 mm Y2.2.2.2 ∧ TOK mm Y2 kf vf i) := by
  refine EvC.of (by decide +kernel) (Nat.le_of_ble_eq_true rfl) ?_
  have hn2 := hS.q.n2
  have hi2 : i < 200 := by omega
  have L : ∀ (c : Nat), c ≤ 127 → kg kf i 14 = nI c → ∀ (Y2 : YY) (k j : Nat) (M : Mem), j + k = c → TBs m Y Y2 kf vf i c j M → EvR G 2 uX4_become (zz m) (nn m) (fun r mm => r = none ∧ ∃ Y2, Sx (273 + i) Y Y2 ∧ KU (m, Y) mm Y2 ∧ FS (Sq Y.2.1 i) m Y.2.2.2 mm Y2.2.2.2 ∧ TOK mm Y2 kf vf i) 125 [(2, .int (nI j)), (0, .ref (Y.1 (9 + i))), (1, .ref (Y'.1 (9 + i)))] [] M := by
    intro c hc2 hc Y2 k
    have hmy : mny kf i = c := by unfold mny; rw [hc, nI_clamp (by omega)]
    induction k with
    | zero =>
      intro j M hj hb
      have e9 : Y2.1 (9 + i) = Y.1 (9 + i) := hb.1 (9 + i) (by omega)
      refine r_go (fun kk => e_iload_n 0 dX4_become_125 rfl kk) ?_
      refine r_go (fun kk => e_aload_n 2 dX4_become_126 rfl kk) ?_
      refine r_go (fun kk => e_getIv (kg kf i 14) dX4_become_127 fl_X4_58 rfl ((hS.src hO hd hb.2.1.2.2).Tt (by omega)) ((hS.src hO hd hb.2.1.2.2).gt hi 14 _ (by decide) rfl) (e_iv (w := nI c) (hc) kk)) ?_
      refine r_go (fun kk => e_icmp_geN 149 dX4_become_130 (by decide) (by omega) (by omega) (fun _ => kk) (fun h => absurd h (by omega))) ?_
      refine r_ret ⟨rfl, Y2, hb.1, hb.2.1, hb.2.2.1, fun w hw => ?_, by rw [e9]; exact hb.2.2.2.2.2.2.1, fun _ => ⟨by rw [e9]; exact hb.2.2.2.1, by rw [hc, nI_clamp (by omega)]; exact hc2, fun q hq => hb.2.2.2.2.2.2.2 q (by rw [hc, nI_clamp (by omega)] at hq; omega)⟩⟩ (e_retV dX4_become_149 rfl rfl)
      rw [e9]
      by_cases e : w = 14
      · subst e
        exact hb.2.2.2.2.1.trans hc.symm
      · exact hb.2.2.2.2.2.1 w (by omega)
    | succ k ih =>
      intro j M hj hb
      have e9 : Y2.1 (9 + i) = Y.1 (9 + i) := hb.1 (9 + i) (by omega)
      obtain ⟨s1, s2, s3, s4⟩ := hb.2.1.shq hi2 (by rw [e9]; exact hb.2.2.2.1)
      refine r_go (fun kk => e_iload_n 0 dX4_become_125 rfl kk) ?_
      refine r_go (fun kk => e_aload_n 2 dX4_become_126 rfl kk) ?_
      refine r_go (fun kk => e_getIv (kg kf i 14) dX4_become_127 fl_X4_58 rfl ((hS.src hO hd hb.2.1.2.2).Tt (by omega)) ((hS.src hO hd hb.2.1.2.2).gt hi 14 _ (by decide) rfl) (e_iv (w := nI c) (hc) kk)) ?_
      refine r_go (fun kk => e_icmp_geN 149 dX4_become_130 (by decide) (by omega) (by omega) (fun h => absurd h (by omega)) (fun _ => kk)) ?_
      refine r_go (fun kk => e_aload_n 1 dX4_become_133 rfl kk) ?_
      refine r_go (fun kk => e_iload_n 0 dX4_become_134 rfl kk) ?_
      refine r_go (fun kk => e_aload_n 2 dX4_become_135 rfl kk) ?_
      refine r_go (fun kk => e_iload_n 0 dX4_become_136 rfl kk) ?_
      refine r_go (fun kk => e_callV (ci := 4) (st := [.int (nI j), .ref (Y.1 (9 + i))]) (st1 := [.int (smV kf i (nI j)), .int (nI j), .ref (Y.1 (9 + i))]) (As := [.int (nI j)]) (k_shortAt (hS.src hO hd hb.2.1.2.2) hi (Or.inr ⟨c, hc2, hc⟩) (nI j)) dX4_become_137 (by decide) cm_X4_shortAt lk_X4_79 im_X4_shortAt rfl sel_X4_shortAt ((hS.src hO hd hb.2.1.2.2).Tt (by omega)) rfl rfl (Nat.le_of_ble_eq_true rfl) rfl kk) ?_
      refine r_go (fun kk => e_iv (w := kf (4400 + 128 * i + j)) (by rw [smV, hc, if_pos (by rw [pk_sub (by omega)]; exact inI_of (by omega) (by omega) (by omega)), nI_clamp (by omega)]) kk) ?_
      refine r_go (fun kk => e_callV (ci := 4) (st := []) (st1 := []) (As := [.int (nI j), .int (kf (4400 + 128 * i + j))]) (x_setShort (a := Y.1 (9 + i)) (c := c) (by rw [← e9]; exact hb.2.1.Tt hi2) hb.2.2.2.1 s1 s2 hb.2.2.2.2.1 hc2 (by omega) (kf (4400 + 128 * i + j))) dX4_become_140 (by decide) cm_X4_setShort lk_X4_83 im_X4_setShort rfl sel_X4_setShort (by rw [← e9]; exact hb.2.1.Tt hi2) rfl rfl (Nat.le_of_ble_eq_true rfl) rfl kk) ?_
      refine r_gen (fun mm => TBs m Y Y2 kf vf i c (j + 1) mm) (hb.st hi2 (i16_id (hH j (by rw [hmy]; omega)))) (fun M2 hb2 => ?_)
      refine r_go (fun kk => e_iinc1N (lv' := [(2, .int (nI (j + 1))), (0, .ref (Y.1 (9 + i))), (1, .ref (Y'.1 (9 + i)))]) 0 dX4_become_143 rfl (by decide) rfl kk) ?_
      refine r_go (fun kk => e_goto 125 dX4_become_146 (by decide) kk) ?_
      refine r_go (fun kk => e_sub [0, 1, 2] rfl kk) ?_
      exact ih (j + 1) M2 (by omega) hb2
  refine r_go (fun kk => e_lvs (lv' := [(0, .ref (Y.1 (9 + i))), (1, .ref (Y'.1 (9 + i)))]) rfl kk) ?_
  refine r_go (fun kk => e_aload_n 0 dX4_become_0 rfl kk) ?_
  refine r_go (fun kk => e_aload_n 1 dX4_become_1 rfl kk) ?_
  refine r_go (fun kk => e_getIv (kg kf i 0) dX4_become_2 fl_X4_9 rfl ((hS.src hO hd hu.2.2).Tt (by omega)) ((hS.src hO hd hu.2.2).gt hi 0 _ (by decide) rfl) kk) ?_
  refine r_go (fun kk => e_aload_n 1 dX4_become_5 rfl kk) ?_
  refine r_go (fun kk => e_getIv (kg kf i 1) dX4_become_6 fl_X4_15 rfl ((hS.src hO hd hu.2.2).Tt (by omega)) ((hS.src hO hd hu.2.2).gt hi 1 _ (by decide) rfl) kk) ?_
  refine r_go (fun kk => e_aload_n 1 dX4_become_9 rfl kk) ?_
  refine r_go (fun kk => e_getIv (kg kf i 2) dX4_become_10 fl_X4_18 rfl ((hS.src hO hd hu.2.2).Tt (by omega)) ((hS.src hO hd hu.2.2).gt hi 2 _ (by decide) rfl) kk) ?_
  refine r_go (fun kk => e_aload_n 1 dX4_become_13 rfl kk) ?_
  refine r_go (fun kk => e_getLv (vf i) dX4_become_14 fl_X4_21 rfl ((hS.src hO hd hu.2.2).Tt (by omega)) ((hS.src hO hd hu.2.2).gv hi) kk) ?_
  refine r_go (fun kk => e_callV (ci := 4) (st := []) (st1 := []) (As := [.int (kg kf i 0), .int (kg kf i 1), .int (kg kf i 2), .long (vf i)]) (x_begin (G := G) (hu.Tt hi2) (kg kf i 0) (kg kf i 1) (kg kf i 2) (vf i)) dX4_become_17 (by decide) cm_X4_begin lk_X4_71 im_X4_begin rfl sel_X4_begin (hu.Tt hi2) rfl rfl (Nat.le_of_ble_eq_true rfl) rfl kk) ?_
  refine r_gen (fun mm => TBd m Y kf vf i 3 mm) (TBd.bg hu hi2) (fun M3 hb3 => ?_)
  refine r_go (fun kk => e_aload_n 0 dX4_become_20 rfl kk) ?_
  refine r_go (fun kk => e_aload_n 1 dX4_become_21 rfl kk) ?_
  refine r_go (fun kk => e_getIv (kg kf i 3) dX4_become_22 fl_X4_25 rfl ((hS.src hO hd hb3.1.2.2).Tt (by omega)) ((hS.src hO hd hb3.1.2.2).gt hi 3 _ (by decide) rfl) kk) ?_
  refine r_go (fun kk => e_putI (ci := 4) (k := 5) dX4_become_25 fl_X4_25 rfl (fun q h => by cases h; rfl) ⟨rfl, rfl⟩ (hb3.1.Tt hi2) kk) ?_
  refine r_gen (fun mm => TBd m Y kf vf i 4 mm) (hb3.st hi2 (by omega) (by omega) rfl) (fun M4 hb4 => ?_)
  refine r_go (fun kk => e_aload_n 0 dX4_become_28 rfl kk) ?_
  refine r_go (fun kk => e_aload_n 1 dX4_become_29 rfl kk) ?_
  refine r_go (fun kk => e_getIv (kg kf i 4) dX4_become_30 fl_X4_28 rfl ((hS.src hO hd hb4.1.2.2).Tt (by omega)) ((hS.src hO hd hb4.1.2.2).gt hi 4 _ (by decide) rfl) kk) ?_
  refine r_go (fun kk => e_putI (ci := 4) (k := 6) dX4_become_33 fl_X4_28 rfl (fun q h => by cases h; rfl) ⟨rfl, rfl⟩ (hb4.1.Tt hi2) kk) ?_
  refine r_gen (fun mm => TBd m Y kf vf i 5 mm) (hb4.st hi2 (by omega) (by omega) rfl) (fun M5 hb5 => ?_)
  refine r_go (fun kk => e_aload_n 0 dX4_become_36 rfl kk) ?_
  refine r_go (fun kk => e_aload_n 1 dX4_become_37 rfl kk) ?_
  refine r_go (fun kk => e_getIv (kg kf i 5) dX4_become_38 fl_X4_31 rfl ((hS.src hO hd hb5.1.2.2).Tt (by omega)) ((hS.src hO hd hb5.1.2.2).gt hi 5 _ (by decide) rfl) kk) ?_
  refine r_go (fun kk => e_putI (ci := 4) (k := 7) dX4_become_41 fl_X4_31 rfl (fun q h => by cases h; rfl) ⟨rfl, rfl⟩ (hb5.1.Tt hi2) kk) ?_
  refine r_gen (fun mm => TBd m Y kf vf i 6 mm) (hb5.st hi2 (by omega) (by omega) rfl) (fun M6 hb6 => ?_)
  refine r_go (fun kk => e_aload_n 0 dX4_become_44 rfl kk) ?_
  refine r_go (fun kk => e_aload_n 1 dX4_become_45 rfl kk) ?_
  refine r_go (fun kk => e_getIv (kg kf i 6) dX4_become_46 fl_X4_34 rfl ((hS.src hO hd hb6.1.2.2).Tt (by omega)) ((hS.src hO hd hb6.1.2.2).gt hi 6 _ (by decide) rfl) kk) ?_
  refine r_go (fun kk => e_putI (ci := 4) (k := 8) dX4_become_49 fl_X4_34 rfl (fun q h => by cases h; rfl) ⟨rfl, rfl⟩ (hb6.1.Tt hi2) kk) ?_
  refine r_gen (fun mm => TBd m Y kf vf i 7 mm) (hb6.st hi2 (by omega) (by omega) rfl) (fun M7 hb7 => ?_)
  refine r_go (fun kk => e_aload_n 0 dX4_become_52 rfl kk) ?_
  refine r_go (fun kk => e_aload_n 1 dX4_become_53 rfl kk) ?_
  refine r_go (fun kk => e_getIv (kg kf i 7) dX4_become_54 fl_X4_37 rfl ((hS.src hO hd hb7.1.2.2).Tt (by omega)) ((hS.src hO hd hb7.1.2.2).gt hi 7 _ (by decide) rfl) kk) ?_
  refine r_go (fun kk => e_putI (ci := 4) (k := 9) dX4_become_57 fl_X4_37 rfl (fun q h => by cases h; rfl) ⟨rfl, rfl⟩ (hb7.1.Tt hi2) kk) ?_
  refine r_gen (fun mm => TBd m Y kf vf i 8 mm) (hb7.st hi2 (by omega) (by omega) rfl) (fun M8 hb8 => ?_)
  refine r_go (fun kk => e_aload_n 0 dX4_become_60 rfl kk) ?_
  refine r_go (fun kk => e_aload_n 1 dX4_become_61 rfl kk) ?_
  refine r_go (fun kk => e_getIv (kg kf i 8) dX4_become_62 fl_X4_40 rfl ((hS.src hO hd hb8.1.2.2).Tt (by omega)) ((hS.src hO hd hb8.1.2.2).gt hi 8 _ (by decide) rfl) kk) ?_
  refine r_go (fun kk => e_putI (ci := 4) (k := 10) dX4_become_65 fl_X4_40 rfl (fun q h => by cases h; rfl) ⟨rfl, rfl⟩ (hb8.1.Tt hi2) kk) ?_
  refine r_gen (fun mm => TBd m Y kf vf i 9 mm) (hb8.st hi2 (by omega) (by omega) rfl) (fun M9 hb9 => ?_)
  refine r_go (fun kk => e_aload_n 0 dX4_become_68 rfl kk) ?_
  refine r_go (fun kk => e_aload_n 1 dX4_become_69 rfl kk) ?_
  refine r_go (fun kk => e_getIv (kg kf i 9) dX4_become_70 fl_X4_43 rfl ((hS.src hO hd hb9.1.2.2).Tt (by omega)) ((hS.src hO hd hb9.1.2.2).gt hi 9 _ (by decide) rfl) kk) ?_
  refine r_go (fun kk => e_putI (ci := 4) (k := 11) dX4_become_73 fl_X4_43 rfl (fun q h => by cases h; rfl) ⟨rfl, rfl⟩ (hb9.1.Tt hi2) kk) ?_
  refine r_gen (fun mm => TBd m Y kf vf i 10 mm) (hb9.st hi2 (by omega) (by omega) rfl) (fun M10 hb10 => ?_)
  refine r_go (fun kk => e_aload_n 0 dX4_become_76 rfl kk) ?_
  refine r_go (fun kk => e_aload_n 1 dX4_become_77 rfl kk) ?_
  refine r_go (fun kk => e_getIv (kg kf i 10) dX4_become_78 fl_X4_46 rfl ((hS.src hO hd hb10.1.2.2).Tt (by omega)) ((hS.src hO hd hb10.1.2.2).gt hi 10 _ (by decide) rfl) kk) ?_
  refine r_go (fun kk => e_putI (ci := 4) (k := 12) dX4_become_81 fl_X4_46 rfl (fun q h => by cases h; rfl) ⟨rfl, rfl⟩ (hb10.1.Tt hi2) kk) ?_
  refine r_gen (fun mm => TBd m Y kf vf i 11 mm) (hb10.st hi2 (by omega) (by omega) rfl) (fun M11 hb11 => ?_)
  refine r_go (fun kk => e_aload_n 0 dX4_become_84 rfl kk) ?_
  refine r_go (fun kk => e_aload_n 1 dX4_become_85 rfl kk) ?_
  refine r_go (fun kk => e_getIv (kg kf i 11) dX4_become_86 fl_X4_49 rfl ((hS.src hO hd hb11.1.2.2).Tt (by omega)) ((hS.src hO hd hb11.1.2.2).gt hi 11 _ (by decide) rfl) kk) ?_
  refine r_go (fun kk => e_putI (ci := 4) (k := 13) dX4_become_89 fl_X4_49 rfl (fun q h => by cases h; rfl) ⟨rfl, rfl⟩ (hb11.1.Tt hi2) kk) ?_
  refine r_gen (fun mm => TBd m Y kf vf i 12 mm) (hb11.st hi2 (by omega) (by omega) rfl) (fun M12 hb12 => ?_)
  refine r_go (fun kk => e_aload_n 0 dX4_become_92 rfl kk) ?_
  refine r_go (fun kk => e_aload_n 1 dX4_become_93 rfl kk) ?_
  refine r_go (fun kk => e_getIv (kg kf i 12) dX4_become_94 fl_X4_52 rfl ((hS.src hO hd hb12.1.2.2).Tt (by omega)) ((hS.src hO hd hb12.1.2.2).gt hi 12 _ (by decide) rfl) kk) ?_
  refine r_go (fun kk => e_putI (ci := 4) (k := 14) dX4_become_97 fl_X4_52 rfl (fun q h => by cases h; rfl) ⟨rfl, rfl⟩ (hb12.1.Tt hi2) kk) ?_
  refine r_gen (fun mm => TBd m Y kf vf i 13 mm) (hb12.st hi2 (by omega) (by omega) rfl) (fun M13 hb13 => ?_)
  refine r_go (fun kk => e_aload_n 0 dX4_become_100 rfl kk) ?_
  refine r_go (fun kk => e_aload_n 1 dX4_become_101 rfl kk) ?_
  refine r_go (fun kk => e_getIv (kg kf i 13) dX4_become_102 fl_X4_55 rfl ((hS.src hO hd hb13.1.2.2).Tt (by omega)) ((hS.src hO hd hb13.1.2.2).gt hi 13 _ (by decide) rfl) kk) ?_
  refine r_go (fun kk => e_putI (ci := 4) (k := 15) dX4_become_105 fl_X4_55 rfl (fun q h => by cases h; rfl) ⟨rfl, rfl⟩ (hb13.1.Tt hi2) kk) ?_
  refine r_gen (fun mm => TBd m Y kf vf i 14 mm) (hb13.st hi2 (by omega) (by omega) rfl) (fun M14 hb14 => ?_)
  rcases hm with hc | ⟨c, hc2, hc⟩
  · skip
    refine r_go (fun kk => e_aload_n 1 dX4_become_108 rfl kk) ?_
    refine r_go (fun kk => e_getIv (kg kf i 14) dX4_become_109 fl_X4_58 rfl ((hS.src hO hd hb14.1.2.2).Tt (by omega)) ((hS.src hO hd hb14.1.2.2).gt hi 14 _ (by decide) rfl) kk) ?_
    refine r_go (fun kk => e_if_lt 123 dX4_become_112 (by decide) (fun _ => kk) (fun h => absurd h (not_not_intro (by rw [hc]; decide)))) ?_
    refine r_go (fun kk => e_ic (nI 0) dX4_become_123 (by decide) kk) ?_
    refine r_go (fun kk => e_istore_n (lv' := [(2, .int (nI 0)), (0, .ref (Y.1 (9 + i))), (1, .ref (Y'.1 (9 + i)))]) dX4_become_124 (by decide) rfl kk) ?_
    refine r_go (fun kk => e_iload_n 0 dX4_become_125 rfl kk) ?_
    refine r_go (fun kk => e_aload_n 2 dX4_become_126 rfl kk) ?_
    refine r_go (fun kk => e_getIv (kg kf i 14) dX4_become_127 fl_X4_58 rfl ((hS.src hO hd hb14.1.2.2).Tt (by omega)) ((hS.src hO hd hb14.1.2.2).gt hi 14 _ (by decide) rfl) kk) ?_
    refine r_go (fun kk => e_icmp_ge 149 dX4_become_130 (by decide) (fun _ => kk) (fun h => absurd h (not_not_intro (by rw [hc]; decide)))) ?_
    refine r_ret ⟨rfl, Y, fun _ _ => rfl, hb14.1, hb14.2.1, fun w hw => ?_, hb14.2.2.2.1, fun h0 => absurd h0 (by rw [hc]; decide)⟩ (e_retV dX4_become_149 rfl rfl)
    by_cases e : w = 14
    · subst e
      exact hb14.2.2.2.2.trans hc.symm
    · exact hb14.2.2.1 w (by omega)
  · skip
    refine r_go (fun kk => e_aload_n 1 dX4_become_108 rfl kk) ?_
    refine r_go (fun kk => e_getIv (kg kf i 14) dX4_become_109 fl_X4_58 rfl ((hS.src hO hd hb14.1.2.2).Tt (by omega)) ((hS.src hO hd hb14.1.2.2).gt hi 14 _ (by decide) rfl) (e_iv (w := nI c) (hc) kk)) ?_
    refine r_go (fun kk => e_if_lt 123 dX4_become_112 (by decide) (fun h => absurd h (nI_pos (by omega))) (fun _ => kk)) ?_
    refine r_go (fun kk => e_aload_n 0 dX4_become_115 rfl kk) ?_
    refine r_go (fun kk => e_aload_n 1 dX4_become_116 rfl kk) ?_
    refine r_go (fun kk => e_getIv (kg kf i 14) dX4_become_117 fl_X4_58 rfl ((hS.src hO hd hb14.1.2.2).Tt (by omega)) ((hS.src hO hd hb14.1.2.2).gt hi 14 _ (by decide) rfl) (e_iv (w := nI c) (hc) kk)) ?_
    obtain ⟨_, M15, ⟨rfl, Y2, g1, g2, g3, g4, g5, g6, g7⟩, E0x120⟩ := x_makeShorts (G := G) hb14.1.rf hi2 hc2
    refine r_go (fun kk => e_callV (ci := 4) (st := []) (st1 := []) (As := [.int (nI c)]) (E0x120) dX4_become_120 (by decide) cm_X4_makeShorts lk_X4_75 im_X4_makeShorts rfl sel_X4_makeShorts (hb14.1.Tt hi2) rfl rfl (Nat.le_of_ble_eq_true rfl) rfl kk) ?_
    have hbs : TBs m Y Y2 kf vf i c 0 M15 := ⟨g1, hb14.1.tr g2, hb14.2.1.tr g3, g4, g5, fun w hw => (g6 w hw).trans (hb14.2.2.1 w hw), g7.trans hb14.2.2.2.1, fun q hq => absurd hq (Nat.not_lt_zero _)⟩
    refine r_go (fun kk => e_ic (nI 0) dX4_become_123 (by decide) kk) ?_
    refine r_go (fun kk => e_istore_n (lv' := [(2, .int (nI 0)), (0, .ref (Y.1 (9 + i))), (1, .ref (Y'.1 (9 + i)))]) dX4_become_124 (by decide) rfl kk) ?_
    refine r_go (fun kk => e_sub [0, 1, 2] rfl kk) ?_
    exact L c hc2 hc Y2 c 0 M15 (by omega) hbs

end Class24
