/-! the class: programs, rows and notes become others -/
def Sp (b p q : Nat) : Prop := q = b + (209 + p) ∨ q = b + (241 + p)
def Sr (b q : Nat) : Prop := q = b + 3 ∨ q = b + 4
def POK (m : Mem) (Y : YY) (kf : KF) (p : Nat) : Prop := gI m 40 (Y.1 (209 + p)) = kf (340 + p) ∧ plen kf p ≤ gN m (Y.1 (241 + p)) ∧ ∀ i, i < plen kf p → aI m (Y.1 (241 + p)) i = kf (30000 + 1000 * p + i)
def ROK (m : Mem) (Y : YY) (ρ : Nat) (kf : KF) : Prop := gI m 60 (Y.1 3) = kf 3 ∧ 5 * (kf 3).toNatClampNeg ≤ gN m (Y.1 4) ∧ ∀ i, i < 5 * (kf 3).toNatClampNeg → aI m (Y.1 4) i = kf (ρ + i)
theorem LB.b {n g : Nat} (h : LB n g) : 32 ≤ n ∧ n ≤ 1000 := by unfold LB at h; omega
theorem LC.b {n g : Nat} (h : LC n g) : 320 ≤ n ∧ n ≤ 40000 := by unfold LC at h; omega
theorem LT.b {n g : Nat} (h : LT n g) : 256 ≤ n ∧ n ≤ 4000 := by unfold LT at h; omega
theorem LB.up {n g n' g' : Nat} (h : LB n g) (h' : LB n' g') (hl : n < n') : LB n' (g + n') := by unfold LB at *; omega
theorem LC.up {n g n' g' : Nat} (h : LC n g) (h' : LC n' g') (hl : n < n') : LC n' (g + n') := by unfold LC at *; omega
theorem LT.up {n g n' g' : Nat} (h : LT n g) (h' : LT n' g') (hl : n < n') : LT n' (g + n') := by unfold LT at *; omega
theorem cpy_in {α : Type} (f g : Nat → α) {n i : Nat} (h : i < n) : va_cpy f g 0 0 n i = f i := by
  unfold va_cpy
  rw [if_pos ⟨Nat.zero_le _, by omega⟩, Nat.sub_zero, Nat.zero_add]
theorem cpy_or {α : Type} (f g : Nat → α) (n i : Nat) : va_cpy f g 0 0 n i = f i ∨ va_cpy f g 0 0 n i = g i := by
  by_cases h : i < n
  · exact Or.inl (cpy_in f g h)
  · unfold va_cpy
    rw [if_neg (by omega)]
    exact Or.inr rfl
section Class25
variable {G : GG} {m : Mem} {Y Y' : YY} {ρ n p : Nat} {kf : KF} {vf : VF}

set_option maxRecDepth 100000 in
set_option maxHeartbeats 4000000 in
theorem k_pbecome (hu : KU (m, Y) m Y) (hS : KS m Y' ρ kf vf n) (hO : Y'.2.2.2 = Y.2.2.2) (hd : ∀ c, Ow Y'.2.1 c → ¬ Ow Y.2.1 c) (hp : p < 32) (hL : LN kf) : EvC G 1 uX2_become [.ref (Y.1 (209 + p)), .ref (Y'.1 (209 + p))] m (fun r mm => r = none ∧ ∃ Y2, Sx (241 + p) Y Y2 ∧ KU (m, Y) mm Y2 ∧ FS (Sp Y.2.1 p) m Y.2.2.2 mm Y2.2.2.2 ∧ POK mm Y2 kf p) := by
  refine EvC.of (by decide +kernel) (Nat.le_of_ble_eq_true rfl) ?_
  have lbS := (hS.1.2.2.2.1 p hp).2.2
  have lbT := (hu.1.2.2.2.1 p hp).2.2
  have bS := lbS.b
  have bT := lbT.b
  have C : ∀ (m1 : Mem) (Y1 : YY), Sx (241 + p) Y Y1 ∧ KU (m, Y) m1 Y1 ∧ FS (Sp Y.2.1 p) m Y.2.2.2 m1 Y1.2.2.2 ∧ gN m (Y'.1 (241 + p)) ≤ gN m1 (Y1.1 (241 + p)) → EvR G 1 uX2_become (zz m) (nn m) (fun r mm => r = none ∧ ∃ Y2, Sx (241 + p) Y Y2 ∧ KU (m, Y) mm Y2 ∧ FS (Sp Y.2.1 p) m Y.2.2.2 mm Y2.2.2.2 ∧ POK mm Y2 kf p) 24 [(0, .ref (Y.1 (209 + p))), (1, .ref (Y'.1 (209 + p)))] [] m1 := by
    intro m1 Y1 hx1
    obtain ⟨hX, hu1, hF1, hl1⟩ := hx1
    have e9 : Y1.1 (209 + p) = Y.1 (209 + p) := hX (209 + p) (by omega)
    have hb1 : Y1.2.1 = Y.2.1 := hu1.2.2.2.1
    refine r_go (fun kk => e_aload_n 0 dX2_become_24 rfl kk) ?_
    refine r_go (fun kk => e_aload_n 1 dX2_become_25 rfl kk) ?_
    refine r_go (fun kk => e_getIv (kf (340 + p)) dX2_become_26 fl_X2_9 rfl ((hS.src hO hd hu1.2.2).Tp hp) (((hS.src hO hd hu1.2.2).2.1.2.2.1 p hp).1) kk) ?_
    refine r_go (fun kk => e_putI (ci := 2) (k := 0) dX2_become_29 fl_X2_9 rfl (fun q h => by cases h; rfl) ⟨rfl, rfl⟩ (by rw [← e9]; exact hu1.Tp hp) kk) ?_
    refine r_gen (fun mm => KU (m, Y) mm Y1 ∧ FS (Sp Y.2.1 p) m Y.2.2.2 mm Y1.2.2.2 ∧ gI mm 40 (Y.1 (209 + p)) = kf (340 + p) ∧ gN mm = gN m1) ⟨?_, hF1.tr (FS.wr (a := Y.1 (209 + p)) (Or.inl ?_) rfl rfl rfl (fun b hb => eqa_sI hb)), u2_eq (gI m1) 40 (Y.1 (209 + p)) _, rfl⟩ (fun M2 hx2 => ?_)
    · have := hu1.sI (f := 40) (r := 209 + p) (x := kf (340 + p)) (by omega) (by omega)
      rw [e9] at this
      exact this
    · rw [← e9, hu1.1.ow (by omega), hb1]
    obtain ⟨hu2, hF2, hI2, hN2⟩ := hx2
    have hq2 := hS.src hO hd hu2.2.2
    have sN : plen kf p ≤ gN M2 (Y'.1 (241 + p)) ∧ gN M2 (Y'.1 (241 + p)) ≤ 1000 := ⟨(hq2.2.1.2.2.1 p hp).2.1, (LB.b (hq2.1.2.2.2.1 p hp).2.2).2⟩
    have tN := LB.b (hu2.1.2.2.2.1 p hp).2.2
    have eN : gN M2 (Y'.1 (241 + p)) = gN m (Y'.1 (241 + p)) := (hu2.2.2.2.2.1 _ (hS.1.1 (241 + p) (by omega)).2.2).2.2.1
    have bS2 : ∀ j, ∃ y : Int8, aI M2 (Y'.1 (241 + p)) j = y.toInt32 := hq2.2.2.2.2.2.2.2.1 _ (241 + p) (hq2.1.1 (241 + p) (by omega)).2.2 (hq2.1.ow (r := 241 + p) (by omega)) (by omega) (by omega)
    have bT2 : ∀ j, ∃ y : Int8, aI M2 (Y1.1 (241 + p)) j = y.toInt32 := hu2.2.2.2.2.2.2.2.1 _ (241 + p) (hu2.1.1 (241 + p) (by omega)).2.2 (hu2.1.ow (r := 241 + p) (by omega)) (by omega) (by omega)
    refine r_go (fun kk => e_aload_n 1 dX2_become_32 rfl kk) ?_
    refine r_go (fun kk => e_getP (some (Y'.1 (241 + p))) dX2_become_33 fl_X2_15 rfl ((hS.src hO hd hu2.2.2).Tp hp) (((hS.src hO hd hu2.2.2).1.2.2.2.1 p hp).2.1) kk) ?_
    refine r_go (fun kk => e_ic (nI 0) dX2_become_36 (by decide) kk) ?_
    refine r_go (fun kk => e_aload_n 0 dX2_become_37 rfl kk) ?_
    refine r_go (fun kk => e_getP (some (Y1.1 (241 + p))) dX2_become_38 fl_X2_15 rfl (by rw [← e9]; exact hu2.Tp hp) (by rw [← e9]; exact (hu2.1.2.2.2.1 p hp).2.1) kk) ?_
    refine r_go (fun kk => e_ic (nI 0) dX2_become_41 (by decide) kk) ?_
    refine r_go (fun kk => e_ic (nI 0) dX2_become_42 (by decide) kk) ?_
    refine r_go (fun kk => e_aload_n 0 dX2_become_43 rfl kk) ?_
    refine r_go (fun kk => e_getIv (kf (340 + p)) dX2_become_44 fl_X2_9 rfl (by rw [← e9]; exact hu2.Tp hp) (hI2) kk) ?_
    refine r_go (fun kk => e_jmax dX2_become_47 lkm_X2_19 (Nat.le_of_ble_eq_true rfl) kk) ?_
    refine r_go (fun kk => e_iv (w := nI (plen kf p)) (mx_len2 hL hp) kk) ?_
    refine r_go (fun kk => e_copyI (t := 11) dX2_become_50 lkm_X2_25 nat_arraycopy sm_arraycopy ini_J10 (hq2.Tb hp) (hu2.Tb hp) (by omega) (by omega) (by rw [hN2]; omega) (by omega) (by omega) (fun j _ => by obtain ⟨y, hy⟩ := bS2 (0 + j); rw [hy]; exact fit_b y) (Nat.le_of_ble_eq_true rfl) kk) ?_
    refine r_ret ⟨rfl, Y1, hX, hu2.byt hp (fun i => ?_), hF2.tr (FS.wr (a := Y1.1 (241 + p)) (Or.inr ?_) rfl rfl rfl (fun b hb => eqa_sRI hb)), ?_, ?_, fun i hi => ?_⟩ (e_retV dX2_become_53 rfl rfl)
    · rcases cpy_or (aI M2 (Y'.1 (241 + p))) (aI M2 (Y1.1 (241 + p))) (plen kf p) i with z | z
      · rw [z]; exact bS2 i
      · rw [z]; exact bT2 i
    · rw [hu2.1.ow (by omega), hb1]
    · rw [e9]; exact hI2
    · show plen kf p ≤ gN M2 (Y1.1 (241 + p))
      rw [hN2]; omega
    · show va_up (aI M2) (Y1.1 (241 + p)) _ (Y1.1 (241 + p)) i = _
      rw [vu_eq, cpy_in _ _ hi]
      exact (hq2.2.1.2.2.1 p hp).2.2 i hi
  refine r_go (fun kk => e_lvs (lv' := [(0, .ref (Y.1 (209 + p))), (1, .ref (Y'.1 (209 + p)))]) rfl kk) ?_
  refine r_go (fun kk => e_aload_n 0 dX2_become_0 rfl kk) ?_
  refine r_go (fun kk => e_getP (some (Y.1 (241 + p))) dX2_become_1 fl_X2_15 rfl (hu.Tp hp) ((hu.1.2.2.2.1 p hp).2.1) kk) ?_
  refine r_go (fun kk => e_alen (t := 11) (n := nI (gN m (Y.1 (241 + p)))) dX2_become_4 (hu.Tb hp) (by omega) rfl kk) ?_
  refine r_go (fun kk => e_aload_n 1 dX2_become_5 rfl kk) ?_
  refine r_go (fun kk => e_getP (some (Y'.1 (241 + p))) dX2_become_6 fl_X2_15 rfl (hS.q.Tp hp) ((hS.q.1.2.2.2.1 p hp).2.1) kk) ?_
  refine r_go (fun kk => e_alen (t := 11) (n := nI (gN m (Y'.1 (241 + p)))) dX2_become_9 (hS.q.Tb hp) (by omega) rfl kk) ?_
  refine r_bl (fun ka kb => e_icmp_geN 24 dX2_become_10 (by decide) (by omega) (by omega) ka kb) (fun h10 => ?_) (fun h10 => ?_)
  · skip
    have h10' := Nat.not_lt.mpr h10
    exact C m Y ⟨fun _ _ => rfl, hu, FS.rf _ m _, h10⟩
  · skip
    have h10' := Nat.not_le.mpr h10
    refine r_go (fun kk => e_aload_n 0 dX2_become_13 rfl kk) ?_
    refine r_go (fun kk => e_aload_n 1 dX2_become_14 rfl kk) ?_
    refine r_go (fun kk => e_getP (some (Y'.1 (241 + p))) dX2_become_15 fl_X2_15 rfl (hS.q.Tp hp) ((hS.q.1.2.2.2.1 p hp).2.1) kk) ?_
    refine r_go (fun kk => e_alen (t := 11) (n := nI (gN m (Y'.1 (241 + p)))) dX2_become_18 (hS.q.Tb hp) (by omega) rfl kk) ?_
    refine r_go (fun kk => e_newa (t := 11) (N := gN m (Y'.1 (241 + p))) dX2_become_19 ac_byte ⟨by omega, rfl⟩ (nI_pos (by omega)) (nI_clamp (by omega)) (by omega) kk) ?_
    refine r_go (fun kk => e_putP (ci := 2) (k := 1) (some (zz m)) dX2_become_21 fl_X2_15 rfl (fun q h => by cases h; rfl) ⟨rfl, rfl⟩ rfl (show gT (nw m 11 (gN m (Y'.1 (241 + p)))) (Y.1 (209 + p)) = 3 from (vu_ne _ _ (Nat.ne_of_lt (hu.1.1 (209 + p) (by omega)).2.2)).trans (hu.Tp hp)) kk) ?_
    have hg := hu.growB (g := aI (nw m 11 (gN m (Y'.1 (241 + p)))) (zz m)) (by omega) hp (by omega) (lbT.up lbS h10) (fun i => ⟨0, (nw_0 m 11 _).2.2.1 i⟩)
    have hf := FS.gw (S := Sp Y.2.1 p) (m := m) (Y := Y) (r0 := 241 + p) (rw := 209 + p) (fw := 41) (ty := 11) (N := gN m (Y'.1 (241 + p))) (g := aI (nw m 11 (gN m (Y'.1 (241 + p)))) (zz m)) (Or.inr rfl) (Or.inl (hu.1.ow (by omega)))
    rw [gwM, sRI_self] at hg hf
    exact C _ (gwY Y (241 + p) _ (zz m)) ⟨fun r hr => gY_n Y hr, hg, hf, by rw [gY_e]; exact Nat.le_of_eq (vu_eq _ _ _).symm⟩

set_option maxRecDepth 100000 in
set_option maxHeartbeats 4000000 in
theorem k_rbecome (hu : KU (m, Y) m Y) (hS : KS m Y' ρ kf vf n) (hO : Y'.2.2.2 = Y.2.2.2) (hd : ∀ c, Ow Y'.2.1 c → ¬ Ow Y.2.1 c) {c : Nat} (h3 : kf 3 = nI c) (hc : c ≤ 8000) : EvC G 1 uX3_become [.ref (Y.1 3), .ref (Y'.1 3)] m (fun r mm => r = none ∧ ∃ Y2, Sx 4 Y Y2 ∧ KU (m, Y) mm Y2 ∧ FS (Sr Y.2.1) m Y.2.2.2 mm Y2.2.2.2 ∧ ROK mm Y2 ρ kf) := by
  refine EvC.of (by decide +kernel) (Nat.le_of_ble_eq_true rfl) ?_
  have h3n : (kf 3).toNatClampNeg = c := by rw [h3, nI_clamp (by omega)]
  have lbS := hS.1.2.2.2.2.2
  have lbT := hu.1.2.2.2.2.2
  have bS := lbS.b
  have bT := lbT.b
  have C : ∀ (m1 : Mem) (Y1 : YY), Sx 4 Y Y1 ∧ KU (m, Y) m1 Y1 ∧ FS (Sr Y.2.1) m Y.2.2.2 m1 Y1.2.2.2 ∧ gN m (Y'.1 4) ≤ gN m1 (Y1.1 4) → EvR G 1 uX3_become (zz m) (nn m) (fun r mm => r = none ∧ ∃ Y2, Sx 4 Y Y2 ∧ KU (m, Y) mm Y2 ∧ FS (Sr Y.2.1) m Y.2.2.2 mm Y2.2.2.2 ∧ ROK mm Y2 ρ kf) 24 [(0, .ref (Y.1 3)), (1, .ref (Y'.1 3))] [] m1 := by
    intro m1 Y1 hx1
    obtain ⟨hX, hu1, hF1, hl1⟩ := hx1
    have e9 : Y1.1 3 = Y.1 3 := hX 3 (by omega)
    have hb1 : Y1.2.1 = Y.2.1 := hu1.2.2.2.1
    have hq1 := hS.src hO hd hu1.2.2
    have sN := hq1.2.1.2.2.2.2.1.1
    rw [h3n] at sN
    have sN : 5 * c ≤ gN m1 (Y'.1 4) := sN
    have sB : gN m1 (Y'.1 4) ≤ 40000 := (LC.b hq1.1.2.2.2.2.2).2
    have tN := LC.b hu1.1.2.2.2.2.2
    have eN : gN m1 (Y'.1 4) = gN m (Y'.1 4) := (hu1.2.2.2.2.1 _ (hS.1.1 4 (by omega)).2.2).2.2.1
    refine r_go (fun kk => e_aload_n 1 dX3_become_24 rfl kk) ?_
    refine r_go (fun kk => e_getP (some (Y'.1 4)) dX3_become_25 fl_X3_15 rfl ((hS.src hO hd hu1.2.2).T 3 (by decide)) ((hS.src hO hd hu1.2.2).1.2.2.1.2.2.2.2.2.2.2) kk) ?_
    refine r_go (fun kk => e_ic (nI 0) dX3_become_28 (by decide) kk) ?_
    refine r_go (fun kk => e_aload_n 0 dX3_become_29 rfl kk) ?_
    refine r_go (fun kk => e_getP (some (Y1.1 4)) dX3_become_30 fl_X3_15 rfl (by rw [← e9]; exact hu1.T 3 (by decide)) (by rw [← e9]; exact hu1.1.2.2.1.2.2.2.2.2.2.2) kk) ?_
    refine r_go (fun kk => e_ic (nI 0) dX3_become_33 (by decide) kk) ?_
    refine r_go (fun kk => e_aload_n 1 dX3_become_34 rfl kk) ?_
    refine r_go (fun kk => e_getIv (nI c) dX3_become_35 fl_X3_9 rfl ((hS.src hO hd hu1.2.2).T 3 (by decide)) ((hS.src hO hd hu1.2.2).2.1.1.2.2.2.1.trans h3) kk) ?_
    refine r_go (fun kk => e_ic (nI 5) dX3_become_38 (by decide) kk) ?_
    refine r_go (fun kk => e_imulN dX3_become_39 kk) ?_
    refine r_go (fun kk => e_copyI (t := 12) dX3_become_40 lkm_X3_19 nat_arraycopy sm_arraycopy ini_J10 (hq1.T 4 (by decide)) (hu1.T 4 (by decide)) (by omega) (by omega) (by omega) (by omega) (by omega) (fun _ _ => rfl) (Nat.le_of_ble_eq_true rfl) kk) ?_
    refine r_gen (fun mm => KU (m, Y) mm Y1 ∧ FS (Sr Y.2.1) m Y.2.2.2 mm Y1.2.2.2 ∧ gN mm = gN m1 ∧ ∀ i, i < 5 * c → aI mm (Y1.1 4) i = kf (ρ + i)) ⟨hu1.rw' (hu1.1.ow (r := 4) (by omega)) (by omega), hF1.tr (FS.wr (a := Y1.1 4) (Or.inr ?_) rfl rfl rfl (fun b hb => eqa_sRI hb)), rfl, fun i hi => ?_⟩ (fun M2 hx2 => ?_)
    · rw [hu1.1.ow (by omega), hb1]
    · show va_up (aI m1) (Y1.1 4) _ (Y1.1 4) i = _
      rw [vu_eq, cpy_in _ _ (by omega)]
      exact hq1.2.1.2.2.2.2.1.2 i (by rw [h3n]; exact hi)
    obtain ⟨hu2, hF2, hN2, hC2⟩ := hx2
    refine r_go (fun kk => e_aload_n 0 dX3_become_43 rfl kk) ?_
    refine r_go (fun kk => e_aload_n 1 dX3_become_44 rfl kk) ?_
    refine r_go (fun kk => e_getIv (nI c) dX3_become_45 fl_X3_9 rfl ((hS.src hO hd hu2.2.2).T 3 (by decide)) ((hS.src hO hd hu2.2.2).2.1.1.2.2.2.1.trans h3) kk) ?_
    refine r_go (fun kk => e_putI (ci := 3) (k := 0) dX3_become_48 fl_X3_9 rfl (fun q h => by cases h; rfl) ⟨rfl, rfl⟩ (by rw [← e9]; exact hu2.T 3 (by decide)) kk) ?_
    refine r_ret ⟨rfl, Y1, hX, ?_, hF2.tr (FS.wr (a := Y.1 3) (Or.inl ?_) rfl rfl rfl (fun b hb => eqa_sI hb)), ?_, ?_, fun i hi => ?_⟩ (e_retV dX3_become_51 rfl rfl)
    · have := hu2.sI (f := 60) (r := 3) (x := nI c) (by omega) (by omega)
      rw [e9] at this
      exact this
    · rw [← e9, hu2.1.ow (by omega), hb1]
    · rw [e9, h3]; exact u2_eq (gI M2) 60 (Y.1 3) _
    · show 5 * (kf 3).toNatClampNeg ≤ gN M2 (Y1.1 4)
      rw [hN2, h3n]; omega
    · rw [h3n] at hi
      exact hC2 i hi
  refine r_go (fun kk => e_lvs (lv' := [(0, .ref (Y.1 3)), (1, .ref (Y'.1 3))]) rfl kk) ?_
  refine r_go (fun kk => e_aload_n 0 dX3_become_0 rfl kk) ?_
  refine r_go (fun kk => e_getP (some (Y.1 4)) dX3_become_1 fl_X3_15 rfl (hu.T 3 (by decide)) (hu.1.2.2.1.2.2.2.2.2.2.2) kk) ?_
  refine r_go (fun kk => e_alen (t := 12) (n := nI (gN m (Y.1 4))) dX3_become_4 (hu.T 4 (by decide)) (by omega) rfl kk) ?_
  refine r_go (fun kk => e_aload_n 1 dX3_become_5 rfl kk) ?_
  refine r_go (fun kk => e_getP (some (Y'.1 4)) dX3_become_6 fl_X3_15 rfl (hS.q.T 3 (by decide)) (hS.q.1.2.2.1.2.2.2.2.2.2.2) kk) ?_
  refine r_go (fun kk => e_alen (t := 12) (n := nI (gN m (Y'.1 4))) dX3_become_9 (hS.q.T 4 (by decide)) (by omega) rfl kk) ?_
  refine r_bl (fun ka kb => e_icmp_geN 24 dX3_become_10 (by decide) (by omega) (by omega) ka kb) (fun h10 => ?_) (fun h10 => ?_)
  · skip
    have h10' := Nat.not_lt.mpr h10
    exact C m Y ⟨fun _ _ => rfl, hu, FS.rf _ m _, h10⟩
  · skip
    have h10' := Nat.not_le.mpr h10
    refine r_go (fun kk => e_aload_n 0 dX3_become_13 rfl kk) ?_
    refine r_go (fun kk => e_aload_n 1 dX3_become_14 rfl kk) ?_
    refine r_go (fun kk => e_getP (some (Y'.1 4)) dX3_become_15 fl_X3_15 rfl (hS.q.T 3 (by decide)) (hS.q.1.2.2.1.2.2.2.2.2.2.2) kk) ?_
    refine r_go (fun kk => e_alen (t := 12) (n := nI (gN m (Y'.1 4))) dX3_become_18 (hS.q.T 4 (by decide)) (by omega) rfl kk) ?_
    refine r_go (fun kk => e_newa (t := 12) (N := gN m (Y'.1 4)) dX3_become_19 ac_int ⟨by omega, rfl⟩ (nI_pos (by omega)) (nI_clamp (by omega)) (by omega) kk) ?_
    refine r_go (fun kk => e_putP (ci := 3) (k := 1) (some (zz m)) dX3_become_21 fl_X3_15 rfl (fun q h => by cases h; rfl) ⟨rfl, rfl⟩ rfl (show gT (nw m 12 (gN m (Y'.1 4))) (Y.1 3) = 4 from (vu_ne _ _ (Nat.ne_of_lt (hu.1.1 3 (by omega)).2.2)).trans (hu.T 3 (by decide))) kk) ?_
    have hg := hu.growC (g := aI (nw m 12 (gN m (Y'.1 4))) (zz m)) (by omega) (by omega) (lbT.up lbS h10)
    have hf := FS.gw (S := Sr Y.2.1) (m := m) (Y := Y) (r0 := 4) (rw := 3) (fw := 61) (ty := 12) (N := gN m (Y'.1 4)) (g := aI (nw m 12 (gN m (Y'.1 4))) (zz m)) (Or.inr rfl) (Or.inl (hu.1.ow (by omega)))
    rw [gwM, sRI_self] at hg hf
    exact C _ (gwY Y 4 _ (zz m)) ⟨fun r hr => gY_n Y hr, hg, hf, by rw [gY_e]; exact Nat.le_of_eq (vu_eq _ _ _).symm⟩

end Class25
