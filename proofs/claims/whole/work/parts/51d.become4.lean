/-! the class: notes become others -/
section Class26
variable {G : GG} {m : Mem} {o : Nat → Nat} {c c' s s' : Nat} {A A' : Nat × Nat × Nat} {nf nf' : Nat → Int64}

set_option maxRecDepth 100000 in
set_option maxHeartbeats 4000000 in
theorem k_nbecome (hN : NS m o c A s nf) (hN' : NS m o c' A' s' nf') (h1 : ¬ S2 c c') (h2 : ¬ S2 c (c' + 1)) : EvC G 1 uX1_become [.ref A.1, .ref A'.1] m (fun r mm => r = none ∧ ∃ A2 o', A2.1 = A.1 ∧ NS mm o' c A2 s' nf' ∧ FS (S2 c) m o mm o' ∧ nn mm + A.2.2 = nn m + A2.2.2 ∧ 16 * zz mm + A.2.2 ≤ 16 * zz m + A2.2.2) := by
  refine EvC.of (by decide +kernel) (Nat.le_of_ble_eq_true rfl) ?_
  have lbS := hN'.2.2.2.2.2.1
  have lbT := hN.2.2.2.2.2.1
  have bS := lbS.b
  have bT := lbT.b
  have hs' := hN'.2.2.2.2.1
  have hle' := hN'.2.2.2.2.2.2.1
  have C : ∀ (m1 : Mem) (C1 g1 : Nat) (o1 : Nat → Nat), gT m1 A.1 = 2 → gP m1 21 A.1 = some C1 → gT m1 C1 = 13 → (o1 A.1 = c ∧ o1 C1 = c + 1) → (A.1 < zz m1 ∧ C1 < zz m1) → LT (gN m1 C1) g1 → gN m A'.2.1 ≤ gN m1 C1 → FS (S2 c) m o m1 o1 → (nn m1 + A.2.2 = nn m + g1 ∧ 16 * zz m1 + A.2.2 ≤ 16 * zz m + g1) → EvR G 1 uX1_become (zz m) (nn m) (fun r mm => r = none ∧ ∃ A2 o', A2.1 = A.1 ∧ NS mm o' c A2 s' nf' ∧ FS (S2 c) m o mm o' ∧ nn mm + A.2.2 = nn m + A2.2.2 ∧ 16 * zz mm + A.2.2 ≤ 16 * zz m + A2.2.2) 24 [(0, .ref A.1), (1, .ref A'.1)] [] m1 := by
    intro m1 C1 g1 o1 hT1 hP1 hC1 ho1 hz1 hL1 hl1 hF1 ha1
    have hS1 := hN'.un hF1 h1 h2
    have tN := hL1.b
    have sN := hS1.2.2.2.2.2.1.b
    have eN : gN m1 A'.2.1 = gN m A'.2.1 := (hF1.2.1 _ hN'.2.1.2.2).2.2.1
    refine r_go (fun kk => e_aload_n 1 dX1_become_24 rfl kk) ?_
    refine r_go (fun kk => e_getP (some A'.2.1) dX1_become_25 fl_X1_15 rfl (hS1.1.1) hS1.2.2.1 kk) ?_
    refine r_go (fun kk => e_ic (nI 0) dX1_become_28 (by decide) kk) ?_
    refine r_go (fun kk => e_aload_n 0 dX1_become_29 rfl kk) ?_
    refine r_go (fun kk => e_getP (some C1) dX1_become_30 fl_X1_15 rfl (hT1) (hP1) kk) ?_
    refine r_go (fun kk => e_ic (nI 0) dX1_become_33 (by decide) kk) ?_
    refine r_go (fun kk => e_aload_n 1 dX1_become_34 rfl kk) ?_
    refine r_go (fun kk => e_getIv (nI s') dX1_become_35 fl_X1_9 rfl (hS1.1.1) hS1.2.2.2.1 kk) ?_
    refine r_go (fun kk => e_ic (nI 4) dX1_become_38 (by decide) kk) ?_
    refine r_go (fun kk => e_imulN dX1_become_39 kk) ?_
    refine r_go (fun kk => e_copyL dX1_become_40 lkm_X1_19 nat_arraycopy sm_arraycopy ini_J10 hS1.2.1.1 hC1 (by omega) (by omega) (by omega) (by omega) (Nat.le_of_ble_eq_true rfl) kk) ?_
    refine r_gen (fun mm => (gT mm = gT m1 ∧ gN mm = gN m1 ∧ gP mm = gP m1 ∧ zz mm = zz m1 ∧ nn mm = nn m1) ∧ FS (S2 c) m o mm o1 ∧ ∀ i, i < 4 * s' → aL mm C1 i = nf' i) ⟨⟨rfl, rfl, rfl, rfl, rfl⟩, hF1.tr (FS.wr (a := C1) (Or.inr ho1.2) rfl rfl rfl (fun b hb => eqa_sRL hb)), fun i hi => ?_⟩ (fun M2 hx2 => ?_)
    · show va_up (aL m1) C1 _ C1 i = _
      rw [vu_eq, cpy_in _ _ (by omega)]
      exact hS1.2.2.2.2.2.2.2 i hi
    obtain ⟨⟨pT, pN, pP, pz, pn⟩, hF2, hC2⟩ := hx2
    have hS2 := hN'.un hF2 h1 h2
    refine r_go (fun kk => e_aload_n 0 dX1_become_43 rfl kk) ?_
    refine r_go (fun kk => e_aload_n 1 dX1_become_44 rfl kk) ?_
    refine r_go (fun kk => e_getIv (nI s') dX1_become_45 fl_X1_9 rfl (hS2.1.1) hS2.2.2.2.1 kk) ?_
    refine r_go (fun kk => e_putI (ci := 1) (k := 0) dX1_become_48 fl_X1_9 rfl (fun q h => by cases h; rfl) ⟨rfl, rfl⟩ (by rw [pT]; exact hT1) kk) ?_
    refine r_ret ⟨rfl, (A.1, C1, g1), o1, rfl, ⟨⟨?_, ho1.1, ?_⟩, ⟨?_, ho1.2, ?_⟩, ?_, u2_eq (gI M2) 20 A.1 (nI s'), hs', ?_, ?_, hC2⟩, hF2.tr (FS.wr (a := A.1) (Or.inl ho1.1) rfl rfl rfl (fun b hb => eqa_sI hb)), ?_, ?_⟩ (e_retV dX1_become_51 rfl rfl)
    · show gT M2 A.1 = 2
      rw [pT]; exact hT1
    · show A.1 < zz M2
      rw [pz]; exact hz1.1
    · show gT M2 C1 = 13
      rw [pT]; exact hC1
    · show C1 < zz M2
      rw [pz]; exact hz1.2
    · show gP M2 21 A.1 = some C1
      rw [pP]; exact hP1
    · show LT (gN M2 C1) g1
      rw [pN]; exact hL1
    · show 4 * s' ≤ gN M2 C1
      rw [pN]; omega
    · show nn M2 + A.2.2 = nn m + g1
      rw [pn]; exact ha1.1
    · show 16 * zz M2 + A.2.2 ≤ 16 * zz m + g1
      rw [pz]; exact ha1.2
  refine r_go (fun kk => e_lvs (lv' := [(0, .ref A.1), (1, .ref A'.1)]) rfl kk) ?_
  refine r_go (fun kk => e_aload_n 0 dX1_become_0 rfl kk) ?_
  refine r_go (fun kk => e_getP (some A.2.1) dX1_become_1 fl_X1_15 rfl (hN.1.1) (hN.2.2.1) kk) ?_
  refine r_go (fun kk => e_alen (n := nI (gN m A.2.1)) dX1_become_4 hN.2.1.1 (by omega) rfl kk) ?_
  refine r_go (fun kk => e_aload_n 1 dX1_become_5 rfl kk) ?_
  refine r_go (fun kk => e_getP (some A'.2.1) dX1_become_6 fl_X1_15 rfl (hN'.1.1) hN'.2.2.1 kk) ?_
  refine r_go (fun kk => e_alen (n := nI (gN m A'.2.1)) dX1_become_9 hN'.2.1.1 (by omega) rfl kk) ?_
  refine r_bl (fun ka kb => e_icmp_geN 24 dX1_become_10 (by decide) (by omega) (by omega) ka kb) (fun h10 => ?_) (fun h10 => ?_)
  · skip
    have h10' := Nat.not_lt.mpr h10
    exact C m A.2.1 A.2.2 o hN.1.1 hN.2.2.1 hN.2.1.1 ⟨hN.1.2.1, hN.2.1.2.1⟩ ⟨hN.1.2.2, hN.2.1.2.2⟩ lbT h10 (FS.rf _ m o) ⟨rfl, Nat.le_refl _⟩
  · skip
    have h10' := Nat.not_le.mpr h10
    refine r_go (fun kk => e_aload_n 0 dX1_become_13 rfl kk) ?_
    refine r_go (fun kk => e_aload_n 1 dX1_become_14 rfl kk) ?_
    refine r_go (fun kk => e_getP (some A'.2.1) dX1_become_15 fl_X1_15 rfl (hN'.1.1) hN'.2.2.1 kk) ?_
    refine r_go (fun kk => e_alen (n := nI (gN m A'.2.1)) dX1_become_18 hN'.2.1.1 (by omega) rfl kk) ?_
    refine r_go (fun kk => e_newa (t := 13) (N := gN m A'.2.1) dX1_become_19 ac_long ⟨by omega, rfl⟩ (nI_pos (by omega)) (nI_clamp (by omega)) (by omega) kk) ?_
    refine r_go (fun kk => e_putP (ci := 1) (k := 1) (some (zz m)) dX1_become_21 fl_X1_15 rfl (fun q h => by cases h; rfl) ⟨rfl, rfl⟩ rfl (show gT (nw m 13 (gN m A'.2.1)) A.1 = 2 from (vu_ne _ _ (Nat.ne_of_lt hN.1.2.2)).trans hN.1.1) kk) ?_
    have hne : A.1 ≠ zz m := Nat.ne_of_lt hN.1.2.2
    refine C _ (zz m) (A.2.2 + gN m A'.2.1) (fun a => if a = zz m then c + 1 else o a) ((vu_ne _ _ hne).trans hN.1.1) (u2_eq (z2 (gP m) (zz m) none) 21 A.1 (some (zz m))) (vu_eq _ _ _) ⟨(if_neg hne).trans hN.1.2.1, if_pos rfl⟩ ⟨Nat.lt_succ_of_lt hN.1.2.2, Nat.lt_succ_self _⟩ ?_ ?_ ⟨Nat.le_succ _, fun a ha => ⟨if_neg (Nat.ne_of_lt ha), vu_ne _ _ (Nat.ne_of_lt ha), vu_ne _ _ (Nat.ne_of_lt ha), fun q => ?_⟩, fun a h1 h2 => ?_⟩ ⟨?_, ?_⟩
    · show LT (va_up (gN m) (zz m) (gN m A'.2.1) (zz m)) _
      rw [vu_eq]
      exact lbT.up lbS h10
    · show gN m A'.2.1 ≤ va_up (gN m) (zz m) (gN m A'.2.1) (zz m)
      rw [vu_eq]; exact Nat.le_refl _
    · exact (nw_eqa m 13 (gN m A'.2.1) ha).1.tr (eqa_sP (fun e => q (Or.inl (by rw [e]; exact hN.1.2.1))))
    · have h2 : a < zz m + 1 := h2
      rw [show a = zz m by omega]
      exact Or.inr (if_pos rfl)
    · show nn m + gN m A'.2.1 + A.2.2 = nn m + (A.2.2 + gN m A'.2.1)
      omega
    · show 16 * (zz m + 1) + A.2.2 ≤ 16 * zz m + (A.2.2 + gN m A'.2.1)
      unfold LT at lbS
      omega

end Class26
