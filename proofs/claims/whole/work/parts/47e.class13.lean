/-! the class: an act, a turn -/
theorem acO_1 (kf : KF) (vf : VF) (t : Nat) (x : Int32) : acO kf vf t (nI 1) x = (nI 0, (if 0 < x then ks kf t 4 x else kf), vf) := by rw [acO, if_pos (by decide)]
theorem acO_2 (kf : KF) (vf : VF) (t : Nat) (x : Int32) : acO kf vf t (nI 2) x = ((tkF kf t x).1, (tkF kf t x).2, vf) := by rw [acO, if_neg (by decide), if_pos (by decide)]
theorem acO_3 (kf : KF) (vf : VF) (t : Nat) (x : Int32) : acO kf vf t (nI 3) x = ((gvF kf vf t x).1, (gvF kf vf t x).2, vf) := by rw [acO, if_neg (by decide), if_neg (by decide), if_pos (by decide)]
theorem acO_4 (kf : KF) (vf : VF) (t : Nat) (x : Int32) : acO kf vf t (nI 4) x = ((wbF kf t x).1, (wbF kf t x).2, vf) := by
  rw [acO, if_neg (by decide), if_neg (by decide), if_neg (by decide), if_pos (by decide), wbF]
  split <;> rfl
theorem acO_5 (kf : KF) (vf : VF) (t : Nat) (x : Int32) : acO kf vf t (nI 5) x = ((rbF kf x).1, (rbF kf x).2, vf) := by
  rw [acO, if_neg (by decide), if_neg (by decide), if_neg (by decide), if_neg (by decide), if_pos (by decide), rbF]
  split <;> rfl
theorem acO_6 (kf : KF) (vf : VF) (t : Nat) (x : Int32) : acO kf vf t (nI 6) x = ((slF kf t x).1, (slF kf t x).2, vf) := by
  rw [acO, if_neg (by decide), if_neg (by decide), if_neg (by decide), if_neg (by decide), if_neg (by decide), if_pos (by decide), slF]
  split <;> rfl
theorem acO_7 (kf : KF) (vf : VF) (t : Nat) (x : Int32) : acO kf vf t (nI 7) x = fkF kf vf t x := by rw [acO, if_neg (by decide), if_neg (by decide), if_neg (by decide), if_neg (by decide), if_neg (by decide), if_neg (by decide), if_pos (by decide)]
theorem acO_10 (kf : KF) (vf : VF) (t : Nat) (x : Int32) : acO kf vf t (nI 10) x = ((syF kf t x).1, (syF kf t x).2, vf) := by rw [acO, if_neg (by decide), if_neg (by decide), if_neg (by decide), if_neg (by decide), if_neg (by decide), if_neg (by decide), if_neg (by decide), if_pos (by decide)]
theorem acO_11 (kf : KF) (vf : VF) (t : Nat) (x : Int32) : acO kf vf t (nI 11) x = (flF x, kf, vf) := by rw [acO, if_neg (by decide), if_neg (by decide), if_neg (by decide), if_neg (by decide), if_neg (by decide), if_neg (by decide), if_neg (by decide), if_neg (by decide), if_pos (by decide), flF]
theorem acO_s (kf : KF) (vf : VF) (t : Nat) (op x : Int32) (h : op = 8 ∨ op = 9 ∨ op = 12) : acO kf vf t op x = ((smF kf t op x).1, (smF kf t op x).2, vf) := by
  rcases h with rfl | rfl | rfl <;> rw [acO, if_neg (by decide), if_neg (by decide), if_neg (by decide), if_neg (by decide), if_neg (by decide), if_neg (by decide), if_neg (by decide), if_neg (by decide), if_neg (by decide)]
theorem fl_oc (x : Int32) : oc (flF x) = flF x := by
  unfold flF
  split
  · split <;> decide
  · decide
/-- what an act may come to -/
def vO (r : Int32) : Prop := 0 < r ∨ r = 0 ∨ r = -1 ∨ r = -2
theorem vO_act (kf : KF) (vf : VF) (t : Nat) : vO (actF kf vf t).1 := by
  have v5 : ∀ x, vO (flF x) := fun x => by
    unfold flF
    split
    · split <;> exact Or.inl (by decide)
    · exact Or.inl (by decide)
  unfold actF acG
  split
  · exact Or.inl (by dsimp only; decide)
  · split
    · split
      · split
        · exact Or.inr (Or.inr (Or.inr rfl))
        · split
          · generalize kf (30000 + 1000 * (kg kf t 1).toNatClampNeg + (kg kf t 5).toNatClampNeg) = op
            generalize kf (30000 + 1000 * (kg kf t 1).toNatClampNeg + (kg kf t 5).toNatClampNeg + 1) = x
            unfold acO
            split
            · exact Or.inr (Or.inl rfl)
            · split
              · unfold tkF
                repeat' split
                all_goals first | exact Or.inl (by dsimp only; decide) | exact Or.inr (Or.inl rfl) | exact Or.inr (Or.inr (Or.inl rfl))
              · split
                · unfold gvF
                  repeat' split
                  all_goals first | exact Or.inl (by dsimp only; decide) | exact Or.inr (Or.inl rfl) | exact Or.inr (Or.inr (Or.inl rfl))
                · split
                  · split
                    · exact Or.inr (Or.inr (Or.inl rfl))
                    · exact Or.inl (by dsimp only; decide)
                  · split
                    · split
                      · exact Or.inr (Or.inl rfl)
                      · exact Or.inl (by dsimp only; decide)
                    · split
                      · split
                        · exact Or.inr (Or.inr (Or.inl rfl))
                        · exact Or.inr (Or.inl rfl)
                      · split
                        · unfold fkF
                          repeat' split
                          all_goals first | exact Or.inl (by dsimp only; decide) | exact Or.inr (Or.inl rfl) | exact Or.inr (Or.inr (Or.inl rfl))
                        · split
                          · unfold syF
                            split
                            · split
                              · exact Or.inr (Or.inl rfl)
                              · exact Or.inl (by dsimp only; decide)
                            · exact Or.inl (by dsimp only; decide)
                          · split
                            · exact v5 _
                            · unfold smF
                              repeat' split
                              all_goals first | exact Or.inl (by dsimp only; decide) | exact Or.inr (Or.inl rfl) | exact Or.inr (Or.inr (Or.inl rfl))
          · exact Or.inl (by dsimp only; decide)
      · exact Or.inl (by dsimp only; decide)
    · exact Or.inl (by dsimp only; decide)
theorem act_rd {kf : KF} {vf : VF} {t p a : Nat} (h : ¬ rdF kf p a = -1) : oc (acG kf vf t p a).1 = rdF kf p a ∧ (acG kf vf t p a).2 = (kf, vf) := by
  unfold rdF at h ⊢
  unfold acG
  split
  · exact ⟨rfl, rfl⟩
  · rename_i c1
    rw [if_neg c1] at h
    split
    · rename_i c2
      rw [if_pos c2] at h
      split
      · rename_i c3
        rw [if_pos c3] at h
        split
        · exact ⟨rfl, rfl⟩
        · rename_i c4
          rw [if_neg c4] at h
          split
          · rename_i c5
            rw [if_pos c5] at h
            exact absurd rfl h
          · exact ⟨rfl, rfl⟩
      · exact ⟨rfl, rfl⟩
    · exact ⟨rfl, rfl⟩
theorem act_rd2 {kf : KF} {vf : VF} {t p a : Nat} (h : rdF kf p a = -1) : acG kf vf t p a = acO kf vf t (kf (30000 + 1000 * p + a)) (kf (30000 + 1000 * p + a + 1)) ∧ ¬ kf (340 + p) < 0 ∧ a + 1 < plen kf p ∧ inI (kf (30000 + 1000 * p + a)) (nI 0) (nI 12) = true ∧ ¬ kf (30000 + 1000 * p + a) = 0 := by
  unfold rdF at h
  unfold acG
  split
  · rename_i c1
    rw [if_pos c1] at h
    exact absurd h (by decide)
  · rename_i c1
    rw [if_neg c1] at h
    split
    · rename_i c2
      rw [if_pos c2] at h
      split
      · rename_i c3
        rw [if_pos c3] at h
        split
        · rename_i c4
          rw [if_pos c4] at h
          exact absurd h (by decide)
        · rename_i c4
          rw [if_neg c4] at h
          split
          · rename_i c5
            exact ⟨rfl, c1, c5, c3, c4⟩
          · rename_i c5
            rw [if_neg c5] at h
            exact absurd h (by decide)
      · rename_i c3
        rw [if_neg c3] at h
        exact absurd h (by decide)
    · rename_i c2
      rw [if_neg c2] at h
      exact absurd h (by decide)
def acE (A : Int32 × KF × VF) (t : Nat) : KF := if oc A.1 < 0 then ks A.2.1 t 5 (kg A.2.1 t 5 + nI 2) else A.2.1
section Class13
variable {G : GG} {Z : Mem × YY} {m : Mem} {Y : YY} {ρ n : Nat} {kf : KF} {vf : VF}

set_option maxRecDepth 100000 in
set_option maxHeartbeats 4000000 in
theorem k_actW (hq : KQ Z m Y ρ kf vf n) (hρ : 62000 ≤ ρ) {t : Nat} (ht : t < n) (h4 : 0 < kg kf t 4) : EvC G 3 uX0_act [.ref (Y.1 0), .ref (Y.1 (9 + t))] m (fun r mm => r = some (.int (-2)) ∧ KQ Z mm Y ρ (ks kf t 4 (kg kf t 4 - nI 1)) vf n) := by
  refine EvC.of (by decide +kernel) (Nat.le_of_ble_eq_true rfl) ?_
  have hn2 := hq.n2
  refine r_go (fun kk => e_lvs (lv' := [(0, .ref (Y.1 0)), (1, .ref (Y.1 (9 + t)))]) rfl kk) ?_
  refine r_go (fun kk => e_aload_n 1 dX0_act_0 rfl kk) ?_
  refine r_go (fun kk => e_getIv (kg kf t 4) dX0_act_1 fl_X0_216 rfl (hq.Tt (by omega)) (hq.gt (by omega) 4 _ (by decide) rfl) kk) ?_
  refine r_go (fun kk => e_if_le 20 dX0_act_4 (by decide) (fun h => absurd h (Int32.not_le.mpr h4)) (fun _ => kk)) ?_
  refine r_go (fun kk => e_aload_n 1 dX0_act_7 rfl kk) ?_
  refine r_go (fun kk => e_dup dX0_act_8 rfl kk) ?_
  refine r_go (fun kk => e_getIv (kg kf t 4) dX0_act_9 fl_X0_216 rfl (hq.Tt (by omega)) (hq.gt (by omega) 4 _ (by decide) rfl) kk) ?_
  refine r_go (fun kk => e_ic (nI 1) dX0_act_12 (by decide) kk) ?_
  refine r_go (fun kk => e_isub dX0_act_13 kk) ?_
  refine r_go (fun kk => e_putI (ci := 4) (k := 6) dX0_act_14 fl_X0_216 rfl (fun q h => by cases h; rfl) ⟨rfl, rfl⟩ (hq.Tt (by omega)) kk) ?_
  refine r_gen (fun mm => KQ Z mm Y ρ (ks kf t 4 ((kg kf t 4) - (nI 1))) vf n) (hq.t hρ (by omega) (by decide) rfl) (fun m1 hq1 => ?_)
  refine r_go (fun kk => e_bipush (v := (-2)) dX0_act_17 (by decide) kk) ?_
  exact r_ret (⟨rfl, hq1⟩) (e_retI dX0_act_19 rfl rfl rfl)

theorem rd_nn {kf : KF} {p a : Nat} (h : ¬ rdF kf p a = -1) : ¬ rdF kf p a < 0 := by
  unfold rdF at h ⊢
  split
  · decide
  · rename_i c1
    rw [if_neg c1] at h
    split
    · rename_i c2
      rw [if_pos c2] at h
      split
      · rename_i c3
        rw [if_pos c3] at h
        split
        · decide
        · rename_i c4
          rw [if_neg c4] at h
          split
          · rename_i c5
            rw [if_pos c5] at h
            exact absurd rfl h
          · decide
      · decide
    · decide

set_option maxRecDepth 100000 in
set_option maxHeartbeats 4000000 in
theorem k_act (hq : KQ Z m Y ρ kf vf n) (hρ : 62000 ≤ ρ) {t : Nat} (ht : t < n) (hW : WF kf n) {c B : Nat} (hG : WG kf vf c B) (hB : B < 2 ^ 40) (hc : c < 2 ^ 30) (h6 : kg kf t 6 = 0) (h4 : ¬ 0 < kg kf t 4) : EvC G 3 uX0_act [.ref (Y.1 0), .ref (Y.1 (9 + t))] m (fun r mm => r = some (.int (oc (actF kf vf t).1)) ∧ ∃ Y2 n2, n ≤ n2 ∧ Sm Y Y2 ∧ KQ Z mm Y2 ρ (acE (actF kf vf t) t) (actF kf vf t).2.2 n2) := by
  refine EvC.of (by decide +kernel) (Nat.le_of_ble_eq_true rfl) ?_
  have hn2 := hq.n2
  have hR := hG.rh hW hB hc
  obtain ⟨⟨hgA, -⟩, hg4, -⟩ := hG.at hW ht
  obtain ⟨h7, h8⟩ := hgA h6
  have h40 : kg kf t 4 = nI 0 := Int32.le_antisymm (Int32.not_lt.mp h4) (Int32.not_lt.mp hg4)
  have hm := hW.hm t ht
  obtain ⟨⟨p, hp, ep⟩, -, ⟨a, ha, ea⟩, -⟩ := hW.2.2.2.2.1 t ht
  have hL := hW.2.2.2.2.2.1
  have hAG := act_G (vf := vf) ep ea (by omega) (by omega)
  have hH : ∀ l, l < 100 → kf (240 + l) = -2 ∨ kf (240 + l) = -1 ∨ ∃ i, i < n ∧ kf (240 + l) = nI i := fun l hl => by
    have := hG.2.1 l hl
    rw [hW.nt] at this
    exact this
  have X : ∀ (M : Mem) (Y1 : YY) (K : KF) (V : VF) (n1 : Nat) (o : Int32), KQ Z M Y1 ρ K V n1 → n ≤ n1 → Sm Y Y1 → oc (actF kf vf t).1 = o → (actF kf vf t).2.1 = K → (actF kf vf t).2.2 = V → EvR G 3 uX0_act (zz m) (nn m) (fun r mm => r = some (.int (oc (actF kf vf t).1)) ∧ ∃ Y2 n2, n ≤ n2 ∧ Sm Y Y2 ∧ KQ Z mm Y2 ρ (acE (actF kf vf t) t) (actF kf vf t).2.2 n2) 257 [(3, .int o), (1, .ref (Y1.1 (9 + t)))] [] M := by
    intro M Y1 K V n1 o hI hn1 hS e1 e2 e3
    have hn3 := hI.n2
    refine r_go (fun kk => e_aload_n 1 dX0_act_257 rfl kk) ?_
    refine r_go (fun kk => e_dup dX0_act_258 rfl kk) ?_
    refine r_go (fun kk => e_getIv (kg K t 5) dX0_act_259 fl_X0_226 rfl (hI.Tt (by omega)) (hI.gt (by omega) 5 _ (by decide) rfl) kk) ?_
    refine r_go (fun kk => e_iload_n 0 dX0_act_262 rfl kk) ?_
    refine r_b1 (fun ka kb => e_if_ge 270 dX0_act_263 (by decide) ka kb) (fun q1 => ?_) (fun q1 => ?_)
    · skip
      have q1' := Int32.not_lt.mpr q1
      refine r_go (fun kk => e_ic (nI 0) dX0_act_270 (by decide) kk) ?_
      refine r_go (fun kk => e_iadd dX0_act_271 kk) ?_
      refine r_go (fun kk => e_putI (ci := 4) (k := 7) dX0_act_272 fl_X0_226 rfl (fun q h => by cases h; rfl) ⟨rfl, rfl⟩ (hI.Tt (by omega)) kk) ?_
      refine r_gen (fun mm => KQ Z mm Y1 ρ (ks K t 5 ((kg K t 5) + (nI 0))) V n1) (hI.t hρ (by omega) (by decide) rfl) (fun m1 hz1 => ?_)
      refine r_go (fun kk => e_iload_n 0 dX0_act_275 rfl kk) ?_
      rw [ks_self (show kg K t 5 = kg K t 5 + nI 0 from (Int32.add_zero _).symm)] at hz1
      exact r_ret ⟨by rw [e1], Y1, n1, hn1, hS, by rw [acE, e1, if_neg (Int32.not_lt.mpr q1), e2, e3]; exact hz1⟩ (e_retI dX0_act_276 rfl rfl rfl)
    · skip
      have q1' := Int32.not_le.mp q1
      refine r_go (fun kk => e_ic (nI 2) dX0_act_266 (by decide) kk) ?_
      refine r_go (fun kk => e_goto 271 dX0_act_267 (by decide) kk) ?_
      refine r_go (fun kk => e_iadd dX0_act_271 kk) ?_
      refine r_go (fun kk => e_putI (ci := 4) (k := 7) dX0_act_272 fl_X0_226 rfl (fun q h => by cases h; rfl) ⟨rfl, rfl⟩ (hI.Tt (by omega)) kk) ?_
      refine r_gen (fun mm => KQ Z mm Y1 ρ (ks K t 5 ((kg K t 5) + (nI 2))) V n1) (hI.t hρ (by omega) (by decide) rfl) (fun m2 hz2 => ?_)
      refine r_go (fun kk => e_iload_n 0 dX0_act_275 rfl kk) ?_
      exact r_ret ⟨by rw [e1], Y1, n1, hn1, hS, by rw [acE, e1, if_pos (Int32.not_le.mp q1), e2, e3]; exact hz2⟩ (e_retI dX0_act_276 rfl rfl rfl)
  refine r_go (fun kk => e_lvs (lv' := [(0, .ref (Y.1 0)), (1, .ref (Y.1 (9 + t)))]) rfl kk) ?_
  refine r_go (fun kk => e_aload_n 1 dX0_act_0 rfl kk) ?_
  refine r_go (fun kk => e_getIv (kg kf t 4) dX0_act_1 fl_X0_216 rfl (hq.Tt (by omega)) (hq.gt (by omega) 4 _ (by decide) rfl) kk) ?_
  refine r_go (fun kk => e_if_le 20 dX0_act_4 (by decide) (fun _ => kk) (fun h => absurd h (not_not_intro (Int32.not_lt.mp h4)))) ?_
  refine r_go (fun kk => e_aload_n 0 dX0_act_20 rfl kk) ?_
  refine r_go (fun kk => e_aload_n 1 dX0_act_21 rfl kk) ?_
  refine r_go (fun kk => e_getIv (kg kf t 1) dX0_act_22 fl_X0_219 rfl (hq.Tt (by omega)) (hq.gt (by omega) 1 _ (by decide) rfl) (e_iv (w := nI p) (ep) kk)) ?_
  refine r_go (fun kk => e_callV (ci := 0) (st := []) (st1 := [.ref (Y.1 (209 + p))]) (As := [.int (nI p)]) (k_programAt hq hp) dX0_act_25 (by decide) cm_X0_programAt lk_X0_222 im_X0_programAt rfl sel_X0_programAt (hq.T 0 (by decide)) rfl rfl (Nat.le_of_ble_eq_true rfl) rfl kk) ?_
  refine r_go (fun kk => e_astore_n (lv' := [(2, .ref (Y.1 (209 + p))), (0, .ref (Y.1 0)), (1, .ref (Y.1 (9 + t)))]) dX0_act_28 (by decide) rfl kk) ?_
  refine r_go (fun kk => e_aload_n 1 dX0_act_29 rfl kk) ?_
  refine r_go (fun kk => e_aload_n 0 dX0_act_30 rfl kk) ?_
  refine r_go (fun kk => e_aload_n 2 dX0_act_31 rfl kk) ?_
  refine r_go (fun kk => e_getIv (kg kf t 5) dX0_act_32 fl_X0_226 rfl (hq.Tt (by omega)) (hq.gt (by omega) 5 _ (by decide) rfl) (e_iv (w := nI a) (ea) kk)) ?_
  refine r_go (fun kk => e_callV (ci := 0) (st := []) (st1 := [.int (rdF kf p a)]) (As := [.ref (Y.1 (209 + p)), .int (nI a)]) (k_readable hq hp hL ha) dX0_act_35 (by decide) cm_X0_readable lk_X0_229 im_X0_readable rfl sel_X0_readable (hq.T 0 (by decide)) rfl rfl (Nat.le_of_ble_eq_true rfl) rfl kk) ?_
  refine r_go (fun kk => e_istore_n (lv' := [(3, .int (rdF kf p a)), (2, .ref (Y.1 (209 + p))), (0, .ref (Y.1 0)), (1, .ref (Y.1 (9 + t)))]) dX0_act_38 (by decide) rfl kk) ?_
  refine r_go (fun kk => e_aload_n 1 dX0_act_39 rfl kk) ?_
  refine r_go (fun kk => e_ifnull dX0_act_40 kk) ?_
  refine r_go (fun kk => e_iload_n 0 dX0_act_43 rfl kk) ?_
  refine r_go (fun kk => e_ic ((-1)) dX0_act_44 (by decide) kk) ?_
  refine r_b1 (fun ka kb => e_icmp_eq 50 dX0_act_45 (by decide) ka kb) (fun q1 => ?_) (fun q1 => ?_)
  · skip
    obtain ⟨hA, hr2, hr3, hr4, hr5⟩ := act_rd2 (vf := vf) (t := t) q1
    have hl := ln_of hL hp hr2
    have hl2 := plen_le hL hp
    have hx127 : kf (30000 + 1000 * p + a + 1) ≤ nI 127 := by
      rw [show 30000 + 1000 * p + a + 1 = 30000 + (1000 * p + a + 1) by omega]
      exact hW.2.2.2.2.2.2.1 _ (by omega)
    rw [← hAG] at hA
    obtain ⟨op, hop⟩ : ∃ op, kf (30000 + 1000 * p + a) = op := ⟨_, rfl⟩
    obtain ⟨x, hxx⟩ : ∃ x, kf (30000 + 1000 * p + a + 1) = x := ⟨_, rfl⟩
    rw [hop] at hA hr4 hr5
    rw [hxx] at hA hx127
    refine r_go (fun kk => e_aload_n 1 dX0_act_50 rfl kk) ?_
    refine r_go (fun kk => e_aload_n 3 dX0_act_51 rfl kk) ?_
    refine r_go (fun kk => e_getIv (kg kf t 5) dX0_act_52 fl_X0_226 rfl (hq.Tt (by omega)) (hq.gt (by omega) 5 _ (by decide) rfl) (e_iv (w := nI a) (ea) kk)) ?_
    refine r_go (fun kk => e_ic (nI 1) dX0_act_55 (by decide) kk) ?_
    refine r_go (fun kk => e_iaddN dX0_act_56 kk) ?_
    refine r_go (fun kk => e_callV (ci := 2) (st := []) (st1 := [.int x]) (As := [.int (nI (a + 1))]) ((by have z := k_byteAt (G := G) hq hp hl hl2 (a := a + 1) hr3; rw [show 30000 + 1000 * p + (a + 1) = 30000 + 1000 * p + a + 1 from rfl, hxx] at z; exact z)) dX0_act_57 (by decide) cm_X2_byteAt lk_X0_233 im_X2_byteAt rfl sel_X2_byteAt (hq.Tp (by omega)) rfl rfl (Nat.le_of_ble_eq_true rfl) rfl kk) ?_
    refine r_go (fun kk => e_istore (lv' := [(4, .int x), (3, .int (rdF kf p a)), (2, .ref (Y.1 (209 + p))), (0, .ref (Y.1 0)), (1, .ref (Y.1 (9 + t)))]) dX0_act_60 (by decide) rfl kk) ?_
    refine r_go (fun kk => e_aload_n 2 dX0_act_62 rfl kk) ?_
    refine r_go (fun kk => e_aload_n 4 dX0_act_63 rfl kk) ?_
    refine r_go (fun kk => e_getIv (kg kf t 5) dX0_act_64 fl_X0_226 rfl (hq.Tt (by omega)) (hq.gt (by omega) 5 _ (by decide) rfl) (e_iv (w := nI a) (ea) kk)) ?_
    refine r_go (fun kk => e_callV (ci := 2) (st := []) (st1 := [.int op]) (As := [.int (nI a)]) ((by have z := k_byteAt (G := G) hq hp hl hl2 (a := a) (by omega); rw [hop] at z; exact z)) dX0_act_67 (by decide) cm_X2_byteAt lk_X0_233 im_X2_byteAt rfl sel_X2_byteAt (hq.Tp (by omega)) rfl rfl (Nat.le_of_ble_eq_true rfl) rfl kk) ?_
    by_cases hsw : inI op (nI 1) (nI 11) = true
    · skip
      obtain ⟨jsw, hsw1, hsw2, rfl⟩ := inI_n (by decide) (by decide) hsw
      rcases (show jsw = 1 ∨ jsw = 2 ∨ jsw = 3 ∨ jsw = 4 ∨ jsw = 5 ∨ jsw = 6 ∨ jsw = 7 ∨ jsw = 8 ∨ jsw = 9 ∨ jsw = 10 ∨ jsw = 11 by omega) with rfl | rfl | rfl | rfl | rfl | rfl | rfl | rfl | rfl | rfl | rfl
      · skip
        refine r_go (fun kk => e_tabIn (off := 58) 128 dX0_act_70 (by decide) (by decide) (by decide) (by decide) kk) ?_
        refine r_go (fun kk => e_aload_n 4 dX0_act_128 rfl kk) ?_
        refine r_go (fun kk => e_ic (nI 0) dX0_act_129 (by decide) kk) ?_
        refine r_go (fun kk => e_iload 0 dX0_act_130 rfl kk) ?_
        refine r_go (fun kk => e_jmax dX0_act_132 lkm_X0_236 (Nat.le_of_ble_eq_true rfl) kk) ?_
        refine r_go (fun kk => e_putI (ci := 4) (k := 6) dX0_act_135 fl_X0_216 rfl (fun q h => by cases h; rfl) ⟨rfl, rfl⟩ (hq.Tt (by omega)) kk) ?_
        refine r_gen (fun mm => KQ Z mm Y ρ (ks kf t 4 (mxI (nI 0) x)) vf n) (hq.t hρ (by omega) (by decide) rfl) (fun m1 hq1 => ?_)
        refine r_go (fun kk => e_goto 257 dX0_act_138 (by decide) kk) ?_
        have hmx : ks kf t 4 (mxI (nI 0) x) = if 0 < x then ks kf t 4 x else kf := by
          unfold mxI
          split
          · rename_i q
            rw [if_pos (show 0 < x from q)]
          · rename_i q
            rw [if_neg (show ¬ 0 < x from q)]
            exact ks_self h40
        refine r_go (fun kk => e_sub [1, 4] rfl kk) ?_
        exact X _ Y _ _ _ _ hq1 (Nat.le_refl n) (Sm.rf Y) (by rw [hA, acO_1, q1]; rfl) (by rw [hA, acO_1, hmx]) (by rw [hA, acO_1])
      · skip
        refine r_go (fun kk => e_tabIn (off := 71) 141 dX0_act_70 (by decide) (by decide) (by decide) (by decide) kk) ?_
        refine r_go (fun kk => e_aload_n 3 dX0_act_141 rfl kk) ?_
        refine r_go (fun kk => e_aload_n 4 dX0_act_142 rfl kk) ?_
        refine r_go (fun kk => e_iload 0 dX0_act_143 rfl kk) ?_
        obtain ⟨_, m2, ⟨rfl, hq2⟩, E2x145⟩ := k_take (G := G) hq hρ ht hW hH h8 x
        refine r_go (fun kk => e_callV (ci := 0) (st := []) (st1 := [.int (oc (tkF kf t x).1)]) (As := [.ref (Y.1 (9 + t)), .int x]) (E2x145) dX0_act_145 (by decide) cm_X0_take lk_X0_239 im_X0_take rfl sel_X0_take (hq.T 0 (by decide)) rfl rfl (Nat.le_of_ble_eq_true rfl) rfl kk) ?_
        refine r_go (fun kk => e_istore_n (lv' := [(3, .int (oc (tkF kf t x).1)), (4, .int x), (2, .ref (Y.1 (209 + p))), (0, .ref (Y.1 0)), (1, .ref (Y.1 (9 + t)))]) dX0_act_148 (by decide) rfl kk) ?_
        refine r_go (fun kk => e_goto 257 dX0_act_149 (by decide) kk) ?_
        refine r_go (fun kk => e_sub [0, 4] rfl kk) ?_
        exact X _ Y _ _ _ _ hq2 (Nat.le_refl n) (Sm.rf Y) (by rw [hA, acO_2]; try rfl) (by rw [hA, acO_2]; try rfl) (by rw [hA, acO_2])
      · skip
        refine r_go (fun kk => e_tabIn (off := 82) 152 dX0_act_70 (by decide) (by decide) (by decide) (by decide) kk) ?_
        refine r_go (fun kk => e_aload_n 3 dX0_act_152 rfl kk) ?_
        refine r_go (fun kk => e_aload_n 4 dX0_act_153 rfl kk) ?_
        refine r_go (fun kk => e_iload 0 dX0_act_154 rfl kk) ?_
        obtain ⟨_, m3, ⟨rfl, hq3⟩, E3x156⟩ := k_give (G := G) hq hρ ht hW hR h6 x
        refine r_go (fun kk => e_callV (ci := 0) (st := []) (st1 := [.int (oc (gvF kf vf t x).1)]) (As := [.ref (Y.1 (9 + t)), .int x]) (E3x156) dX0_act_156 (by decide) cm_X0_give lk_X0_243 im_X0_give rfl sel_X0_give (hq.T 0 (by decide)) rfl rfl (Nat.le_of_ble_eq_true rfl) rfl kk) ?_
        refine r_go (fun kk => e_istore_n (lv' := [(3, .int (oc (gvF kf vf t x).1)), (4, .int x), (2, .ref (Y.1 (209 + p))), (0, .ref (Y.1 0)), (1, .ref (Y.1 (9 + t)))]) dX0_act_159 (by decide) rfl kk) ?_
        refine r_go (fun kk => e_goto 257 dX0_act_160 (by decide) kk) ?_
        refine r_go (fun kk => e_sub [0, 4] rfl kk) ?_
        exact X _ Y _ _ _ _ hq3 (Nat.le_refl n) (Sm.rf Y) (by rw [hA, acO_3]; try rfl) (by rw [hA, acO_3]; try rfl) (by rw [hA, acO_3])
      · skip
        refine r_go (fun kk => e_tabIn (off := 93) 163 dX0_act_70 (by decide) (by decide) (by decide) (by decide) kk) ?_
        refine r_go (fun kk => e_aload_n 3 dX0_act_163 rfl kk) ?_
        refine r_go (fun kk => e_aload_n 4 dX0_act_164 rfl kk) ?_
        refine r_go (fun kk => e_iload 0 dX0_act_165 rfl kk) ?_
        obtain ⟨_, m4, ⟨rfl, hq4⟩, E4x167⟩ := k_waitForBell (G := G) hq hρ ht h8 x
        refine r_go (fun kk => e_callV (ci := 0) (st := []) (st1 := [.int (oc (wbF kf t x).1)]) (As := [.ref (Y.1 (9 + t)), .int x]) (E4x167) dX0_act_167 (by decide) cm_X0_waitForBell lk_X0_246 im_X0_waitForBell rfl sel_X0_waitForBell (hq.T 0 (by decide)) rfl rfl (Nat.le_of_ble_eq_true rfl) rfl kk) ?_
        refine r_go (fun kk => e_istore_n (lv' := [(3, .int (oc (wbF kf t x).1)), (4, .int x), (2, .ref (Y.1 (209 + p))), (0, .ref (Y.1 0)), (1, .ref (Y.1 (9 + t)))]) dX0_act_170 (by decide) rfl kk) ?_
        refine r_go (fun kk => e_goto 257 dX0_act_171 (by decide) kk) ?_
        refine r_go (fun kk => e_sub [0, 4] rfl kk) ?_
        exact X _ Y _ _ _ _ hq4 (Nat.le_refl n) (Sm.rf Y) (by rw [hA, acO_4]; try rfl) (by rw [hA, acO_4]; try rfl) (by rw [hA, acO_4])
      · skip
        refine r_go (fun kk => e_tabIn (off := 104) 174 dX0_act_70 (by decide) (by decide) (by decide) (by decide) kk) ?_
        refine r_go (fun kk => e_aload_n 3 dX0_act_174 rfl kk) ?_
        refine r_go (fun kk => e_iload 0 dX0_act_175 rfl kk) ?_
        obtain ⟨_, m5, ⟨rfl, hq5⟩, E5x177⟩ := k_ringFrom (G := G) hq hρ x
        refine r_go (fun kk => e_callV (ci := 0) (st := []) (st1 := [.int (oc (rbF kf x).1)]) (As := [.int x]) (E5x177) dX0_act_177 (by decide) cm_X0_ringFrom lk_X0_249 im_X0_ringFrom rfl sel_X0_ringFrom (hq.T 0 (by decide)) rfl rfl (Nat.le_of_ble_eq_true rfl) rfl kk) ?_
        refine r_go (fun kk => e_istore_n (lv' := [(3, .int (oc (rbF kf x).1)), (4, .int x), (2, .ref (Y.1 (209 + p))), (0, .ref (Y.1 0)), (1, .ref (Y.1 (9 + t)))]) dX0_act_180 (by decide) rfl kk) ?_
        refine r_go (fun kk => e_goto 257 dX0_act_181 (by decide) kk) ?_
        refine r_go (fun kk => e_sub [0, 4] rfl kk) ?_
        exact X _ Y _ _ _ _ hq5 (Nat.le_refl n) (Sm.rf Y) (by rw [hA, acO_5]; try rfl) (by rw [hA, acO_5]; try rfl) (by rw [hA, acO_5])
      · skip
        refine r_go (fun kk => e_tabIn (off := 114) 184 dX0_act_70 (by decide) (by decide) (by decide) (by decide) kk) ?_
        refine r_go (fun kk => e_aload_n 3 dX0_act_184 rfl kk) ?_
        refine r_go (fun kk => e_aload_n 4 dX0_act_185 rfl kk) ?_
        refine r_go (fun kk => e_iload 0 dX0_act_186 rfl kk) ?_
        obtain ⟨_, m6, ⟨rfl, hq6⟩, E6x188⟩ := k_sleep (G := G) hq hρ ht h7 x
        refine r_go (fun kk => e_callV (ci := 0) (st := []) (st1 := [.int (oc (slF kf t x).1)]) (As := [.ref (Y.1 (9 + t)), .int x]) (E6x188) dX0_act_188 (by decide) cm_X0_sleep lk_X0_252 im_X0_sleep rfl sel_X0_sleep (hq.T 0 (by decide)) rfl rfl (Nat.le_of_ble_eq_true rfl) rfl kk) ?_
        refine r_go (fun kk => e_istore_n (lv' := [(3, .int (oc (slF kf t x).1)), (4, .int x), (2, .ref (Y.1 (209 + p))), (0, .ref (Y.1 0)), (1, .ref (Y.1 (9 + t)))]) dX0_act_191 (by decide) rfl kk) ?_
        refine r_go (fun kk => e_goto 257 dX0_act_192 (by decide) kk) ?_
        refine r_go (fun kk => e_sub [0, 4] rfl kk) ?_
        exact X _ Y _ _ _ _ hq6 (Nat.le_refl n) (Sm.rf Y) (by rw [hA, acO_6]; try rfl) (by rw [hA, acO_6]; try rfl) (by rw [hA, acO_6])
      · skip
        refine r_go (fun kk => e_tabIn (off := 125) 195 dX0_act_70 (by decide) (by decide) (by decide) (by decide) kk) ?_
        refine r_go (fun kk => e_aload_n 3 dX0_act_195 rfl kk) ?_
        refine r_go (fun kk => e_aload_n 4 dX0_act_196 rfl kk) ?_
        refine r_go (fun kk => e_iload 0 dX0_act_197 rfl kk) ?_
        have hsp : EvC G 2 uX0_spawn [.ref (Y.1 0), .ref (Y.1 (9 + t)), .int x] m (fun r mm => r = some (.int (oc (fkF kf vf t x).1)) ∧ ∃ n2, n ≤ n2 ∧ KQ Z mm Y ρ (fkF kf vf t x).2.1 (fkF kf vf t x).2.2 n2) := by
          rcases Nat.lt_or_ge n 200 with z | z
          · exact k_spawnA hq hρ ht z x
          · exact k_spawnB hq hρ ht (by omega) x
        obtain ⟨_, m7, ⟨rfl, n2, hnn, hq7⟩, E7x199⟩ := hsp
        refine r_go (fun kk => e_callV (ci := 0) (st := []) (st1 := [.int (oc (fkF kf vf t x).1)]) (As := [.ref (Y.1 (9 + t)), .int x]) (E7x199) dX0_act_199 (by decide) cm_X0_spawn lk_X0_255 im_X0_spawn rfl sel_X0_spawn (hq.T 0 (by decide)) rfl rfl (Nat.le_of_ble_eq_true rfl) rfl kk) ?_
        refine r_go (fun kk => e_istore_n (lv' := [(3, .int (oc (fkF kf vf t x).1)), (4, .int x), (2, .ref (Y.1 (209 + p))), (0, .ref (Y.1 0)), (1, .ref (Y.1 (9 + t)))]) dX0_act_202 (by decide) rfl kk) ?_
        refine r_go (fun kk => e_goto 257 dX0_act_203 (by decide) kk) ?_
        refine r_go (fun kk => e_sub [0, 4] rfl kk) ?_
        exact X _ Y _ _ _ _ hq7 (hnn) (Sm.rf Y) (by rw [hA, acO_7]; try rfl) (by rw [hA, acO_7]; try rfl) (by rw [hA, acO_7])
      · skip
        refine r_go (fun kk => e_tabIn (off := 136) 206 dX0_act_70 (by decide) (by decide) (by decide) (by decide) kk) ?_
        refine r_go (fun kk => e_aload_n 3 dX0_act_206 rfl kk) ?_
        refine r_go (fun kk => e_aload_n 4 dX0_act_207 rfl kk) ?_
        refine r_go (fun kk => e_iload 0 dX0_act_208 rfl kk) ?_
        obtain ⟨_, m8, ⟨rfl, Y2, hS2, hq8⟩, E8x210⟩ := k_getShorts (G := G) hq hρ ht hm hx127
        refine r_go (fun kk => e_callV (ci := 0) (st := []) (st1 := [.int (oc (smF kf t 8 x).1)]) (As := [.ref (Y.1 (9 + t)), .int x]) (E8x210) dX0_act_210 (by decide) cm_X0_getShorts lk_X0_258 im_X0_getShorts rfl sel_X0_getShorts (hq.T 0 (by decide)) rfl rfl (Nat.le_of_ble_eq_true rfl) rfl kk) ?_
        refine r_go (fun kk => e_istore_n (lv' := [(3, .int (oc (smF kf t 8 x).1)), (4, .int x), (2, .ref (Y.1 (209 + p))), (0, .ref (Y.1 0)), (1, .ref (Y.1 (9 + t)))]) dX0_act_213 (by decide) rfl kk) ?_
        refine r_go (fun kk => e_goto 257 dX0_act_214 (by decide) kk) ?_
        refine r_go (fun kk => e_sub [0, 4] rfl kk) ?_
        refine r_go (fun kk => e_lvs (lv' := [(3, .int (oc (smF kf t 8 x).1)), (1, .ref (Y2.1 (9 + t)))]) (by rw [hS2 (9 + t) (by omega)]; rfl) kk) ?_
        exact X _ Y2 _ _ _ _ hq8 (Nat.le_refl n) (hS2) (by rw [hA, acO_s _ _ _ (nI 8) _ (Or.inl rfl)]; try rfl) (by rw [hA, acO_s _ _ _ (nI 8) _ (Or.inl rfl)]; try rfl) (by rw [hA, acO_s _ _ _ (nI 8) _ (Or.inl rfl)])
      · skip
        refine r_go (fun kk => e_tabIn (off := 147) 217 dX0_act_70 (by decide) (by decide) (by decide) (by decide) kk) ?_
        refine r_go (fun kk => e_aload_n 3 dX0_act_217 rfl kk) ?_
        refine r_go (fun kk => e_aload_n 4 dX0_act_218 rfl kk) ?_
        refine r_go (fun kk => e_iload 0 dX0_act_219 rfl kk) ?_
        obtain ⟨_, m9, ⟨rfl, hq9⟩, E9x221⟩ := k_stamp (G := G) hq hρ ht hm x
        refine r_go (fun kk => e_callV (ci := 0) (st := []) (st1 := [.int (oc (smF kf t 9 x).1)]) (As := [.ref (Y.1 (9 + t)), .int x]) (E9x221) dX0_act_221 (by decide) cm_X0_stamp lk_X0_261 im_X0_stamp rfl sel_X0_stamp (hq.T 0 (by decide)) rfl rfl (Nat.le_of_ble_eq_true rfl) rfl kk) ?_
        refine r_go (fun kk => e_istore_n (lv' := [(3, .int (oc (smF kf t 9 x).1)), (4, .int x), (2, .ref (Y.1 (209 + p))), (0, .ref (Y.1 0)), (1, .ref (Y.1 (9 + t)))]) dX0_act_224 (by decide) rfl kk) ?_
        refine r_go (fun kk => e_goto 257 dX0_act_225 (by decide) kk) ?_
        refine r_go (fun kk => e_sub [0, 4] rfl kk) ?_
        exact X _ Y _ _ _ _ hq9 (Nat.le_refl n) (Sm.rf Y) (by rw [hA, acO_s _ _ _ (nI 9) _ (Or.inr (Or.inl rfl))]; try rfl) (by rw [hA, acO_s _ _ _ (nI 9) _ (Or.inr (Or.inl rfl))]; try rfl) (by rw [hA, acO_s _ _ _ (nI 9) _ (Or.inr (Or.inl rfl))])
      · skip
        refine r_go (fun kk => e_tabIn (off := 158) 228 dX0_act_70 (by decide) (by decide) (by decide) (by decide) kk) ?_
        refine r_go (fun kk => e_aload_n 3 dX0_act_228 rfl kk) ?_
        refine r_go (fun kk => e_aload_n 4 dX0_act_229 rfl kk) ?_
        refine r_go (fun kk => e_iload 0 dX0_act_230 rfl kk) ?_
        obtain ⟨_, m10, ⟨rfl, hq10⟩, E10x232⟩ := k_claim (G := G) hq hρ ht x
        refine r_go (fun kk => e_callV (ci := 0) (st := []) (st1 := [.int (oc (syF kf t x).1)]) (As := [.ref (Y.1 (9 + t)), .int x]) (E10x232) dX0_act_232 (by decide) cm_X0_claim lk_X0_264 im_X0_claim rfl sel_X0_claim (hq.T 0 (by decide)) rfl rfl (Nat.le_of_ble_eq_true rfl) rfl kk) ?_
        refine r_go (fun kk => e_istore_n (lv' := [(3, .int (oc (syF kf t x).1)), (4, .int x), (2, .ref (Y.1 (209 + p))), (0, .ref (Y.1 0)), (1, .ref (Y.1 (9 + t)))]) dX0_act_235 (by decide) rfl kk) ?_
        refine r_go (fun kk => e_goto 257 dX0_act_236 (by decide) kk) ?_
        refine r_go (fun kk => e_sub [0, 4] rfl kk) ?_
        exact X _ Y _ _ _ _ hq10 (Nat.le_refl n) (Sm.rf Y) (by rw [hA, acO_10]; try rfl) (by rw [hA, acO_10]; try rfl) (by rw [hA, acO_10])
      · skip
        refine r_go (fun kk => e_tabIn (off := 169) 239 dX0_act_70 (by decide) (by decide) (by decide) (by decide) kk) ?_
        refine r_go (fun kk => e_aload_n 3 dX0_act_239 rfl kk) ?_
        refine r_go (fun kk => e_iload 0 dX0_act_240 rfl kk) ?_
        refine r_go (fun kk => e_callV (ci := 0) (st := []) (st1 := [.int (flF x)]) (As := [.int x]) (k_fail x) dX0_act_242 (by decide) cm_X0_fail lk_X0_267 im_X0_fail rfl sel_X0_fail (hq.T 0 (by decide)) rfl rfl (Nat.le_of_ble_eq_true rfl) rfl kk) ?_
        refine r_go (fun kk => e_istore_n (lv' := [(3, .int (flF x)), (4, .int x), (2, .ref (Y.1 (209 + p))), (0, .ref (Y.1 0)), (1, .ref (Y.1 (9 + t)))]) dX0_act_245 (by decide) rfl kk) ?_
        refine r_go (fun kk => e_goto 257 dX0_act_246 (by decide) kk) ?_
        refine r_go (fun kk => e_sub [0, 4] rfl kk) ?_
        exact X _ Y _ _ _ _ hq (Nat.le_refl n) (Sm.rf Y) (by rw [hA, acO_11]; exact fl_oc x) (by rw [hA, acO_11]) (by rw [hA, acO_11])
    · skip
      rw [Bool.not_eq_true] at hsw
      refine r_go (fun kk => e_tabOut 249 dX0_act_70 (inI_out (a := 1) (b := 11) (by decide) (by decide) hsw) (by decide) kk) ?_
      have h12 : op = 12 := by
        obtain ⟨z, hz1, hz2, rfl⟩ := inI_n (by decide) (by decide) hr4
        have hz0 : z ≠ 0 := fun y => hr5 (by rw [y]; rfl)
        rcases (show z = 12 ∨ (1 ≤ z ∧ z ≤ 11) by omega) with y | y
        · rw [y]; rfl
        · rw [inI_of y.1 y.2 (by decide)] at hsw
          exact absurd hsw (by decide)
      have h9a : ¬ op = 8 := by rw [h12]; decide
      have h9b : ¬ op = 9 := by rw [h12]; decide
      refine r_go (fun kk => e_aload_n 3 dX0_act_249 rfl kk) ?_
      refine r_go (fun kk => e_aload_n 4 dX0_act_250 rfl kk) ?_
      refine r_go (fun kk => e_iload 0 dX0_act_251 rfl kk) ?_
      obtain ⟨_, m11, ⟨rfl, hq11⟩, E11x253⟩ := k_workByShort (G := G) hq hρ ht hm h40 (op := op) h9a h9b x
      refine r_go (fun kk => e_callV (ci := 0) (st := []) (st1 := [.int (oc (smF kf t op x).1)]) (As := [.ref (Y.1 (9 + t)), .int x]) (E11x253) dX0_act_253 (by decide) cm_X0_workByShort lk_X0_270 im_X0_workByShort rfl sel_X0_workByShort (hq.T 0 (by decide)) rfl rfl (Nat.le_of_ble_eq_true rfl) rfl kk) ?_
      refine r_go (fun kk => e_istore_n (lv' := [(3, .int (oc (smF kf t op x).1)), (4, .int x), (2, .ref (Y.1 (209 + p))), (0, .ref (Y.1 0)), (1, .ref (Y.1 (9 + t)))]) dX0_act_256 (by decide) rfl kk) ?_
      refine r_go (fun kk => e_sub [0, 4] rfl kk) ?_
      exact X _ Y _ _ _ _ hq11 (Nat.le_refl n) (Sm.rf Y) (by rw [hA, acO_s _ _ _ _ _ (Or.inr (Or.inr h12))]; try rfl) (by rw [hA, acO_s _ _ _ _ _ (Or.inr (Or.inr h12))]; try rfl) (by rw [hA, acO_s _ _ _ _ _ (Or.inr (Or.inr h12))])
  · skip
    refine r_go (fun kk => e_iload_n 0 dX0_act_48 rfl kk) ?_
    have hrd := act_rd (vf := vf) (t := t) q1
    rw [← hAG] at hrd
    exact r_ret ⟨by rw [hrd.1], Y, n, Nat.le_refl n, Sm.rf Y, by rw [acE, hrd.1, if_neg (rd_nn q1), hrd.2]; exact hq⟩ (e_retI dX0_act_49 rfl rfl rfl)

end Class13
