/-! the class: beginnings, exactly -/
def riM (m : Mem) (a : Nat) : Mem := sP (nw (sI m 60 a (nI 0)) 12 320) 61 a (some (zz m))
def piM (m : Mem) (a : Nat) : Mem := sP (nw (sI m 40 a (-1)) 11 32) 41 a (some (zz m))
def niM (m : Mem) (a : Nat) : Mem := sP (nw (sI m 20 a (nI 0)) 13 256) 21 a (some (zz m))
def tiM (m : Mem) (a : Nat) (x : Int32) : Mem := sI (sL (sP (sI (sI (sI (sI (sI (sI (sI (sI (sI (sI (sI (sI (sL (sI (sI (sI m 81 a (nI 0)) 82 a (nI 0)) 83 a (nI 1)) 84 a (lN 0)) 85 a (nI 0)) 86 a (nI 0)) 87 a (nI 0)) 88 a (nI 0)) 89 a (-1)) 90 a (-1)) 91 a (nI 0)) 92 a (nI 100)) 93 a (nI 0)) 94 a (nI 0)) 95 a (nI 0)) 96 a (-1)) 97 a none) 98 a (lN 0)) 80 a x
theorem gT_sI (m : Mem) (f a : Nat) (x : Int32) : gT (sI m f a x) = gT m := (Eq.refl _).trans (Eq.refl _)
theorem gT_sL (m : Mem) (f a : Nat) (x : Int64) : gT (sL m f a x) = gT m := (Eq.refl _).trans (Eq.refl _)
theorem gT_sP (m : Mem) (f a : Nat) (x : Option Nat) : gT (sP m f a x) = gT m := (Eq.refl _).trans (Eq.refl _)

set_option maxRecDepth 100000 in
set_option maxHeartbeats 4000000 in
theorem x_rowsInit {G : GG} {m : Mem} {a : Nat} (ht : gT m a = 4) (ha : a < zz m) : Ev G 1 uX3_init [.ref a] m none (riM m a) := by
  refine Ev.of (by decide +kernel) (Nat.le_of_ble_eq_true rfl) ?_
  refine e_lvs (lv' := [(0, .ref a)]) rfl ?_
  refine e_aload_n 0 dX3_init_0 rfl ?_
  refine e_objInit dX3_init_1 lkm_X3_3 im_obj code_obj (by decide) ?_
  refine e_aload_n 0 dX3_init_4 rfl ?_
  refine e_ic (nI 0) dX3_init_5 (by decide) ?_
  refine e_putI (ci := 3) (k := 0) dX3_init_6 fl_X3_9 rfl (fun q h => by cases h; rfl) ⟨rfl, rfl⟩ ht ?_
  refine e_aload_n 0 dX3_init_9 rfl ?_
  refine e_sipush (v := nI 320) dX3_init_10 (by decide) ?_
  refine e_newa (t := 12) (N := 320) dX3_init_13 ac_int ⟨by omega, rfl⟩ (by decide) rfl (by omega) ?_
  refine e_putP (ci := 3) (k := 1) (some (zz m)) dX3_init_15 fl_X3_15 rfl (fun q h => by cases h; rfl) ⟨rfl, rfl⟩ rfl ((vu_ne _ _ (Nat.ne_of_lt ha)).trans ht) ?_
  exact e_retV dX3_init_18 rfl rfl

set_option maxRecDepth 100000 in
set_option maxHeartbeats 4000000 in
theorem x_progInit {G : GG} {m : Mem} {a : Nat} (ht : gT m a = 3) (ha : a < zz m) : Ev G 1 uX2_init [.ref a] m none (piM m a) := by
  refine Ev.of (by decide +kernel) (Nat.le_of_ble_eq_true rfl) ?_
  refine e_lvs (lv' := [(0, .ref a)]) rfl ?_
  refine e_aload_n 0 dX2_init_0 rfl ?_
  refine e_objInit dX2_init_1 lkm_X2_3 im_obj code_obj (by decide) ?_
  refine e_aload_n 0 dX2_init_4 rfl ?_
  refine e_ic ((-1)) dX2_init_5 (by decide) ?_
  refine e_putI (ci := 2) (k := 0) dX2_init_6 fl_X2_9 rfl (fun q h => by cases h; rfl) ⟨rfl, rfl⟩ ht ?_
  refine e_aload_n 0 dX2_init_9 rfl ?_
  refine e_bipush (v := nI 32) dX2_init_10 (by decide) ?_
  refine e_newa (t := 11) (N := 32) dX2_init_12 ac_byte ⟨by omega, rfl⟩ (by decide) rfl (by omega) ?_
  refine e_putP (ci := 2) (k := 1) (some (zz m)) dX2_init_14 fl_X2_15 rfl (fun q h => by cases h; rfl) ⟨rfl, rfl⟩ rfl ((vu_ne _ _ (Nat.ne_of_lt ha)).trans ht) ?_
  exact e_retV dX2_init_17 rfl rfl

set_option maxRecDepth 100000 in
set_option maxHeartbeats 4000000 in
theorem x_notesInit {G : GG} {m : Mem} {a : Nat} (ht : gT m a = 2) (ha : a < zz m) : Ev G 1 uX1_init [.ref a] m none (niM m a) := by
  refine Ev.of (by decide +kernel) (Nat.le_of_ble_eq_true rfl) ?_
  refine e_lvs (lv' := [(0, .ref a)]) rfl ?_
  refine e_aload_n 0 dX1_init_0 rfl ?_
  refine e_objInit dX1_init_1 lkm_X1_3 im_obj code_obj (by decide) ?_
  refine e_aload_n 0 dX1_init_4 rfl ?_
  refine e_ic (nI 0) dX1_init_5 (by decide) ?_
  refine e_putI (ci := 1) (k := 0) dX1_init_6 fl_X1_9 rfl (fun q h => by cases h; rfl) ⟨rfl, rfl⟩ ht ?_
  refine e_aload_n 0 dX1_init_9 rfl ?_
  refine e_sipush (v := nI 256) dX1_init_10 (by decide) ?_
  refine e_newa (t := 13) (N := 256) dX1_init_13 ac_long ⟨by omega, rfl⟩ (by decide) rfl (by omega) ?_
  refine e_putP (ci := 1) (k := 1) (some (zz m)) dX1_init_15 fl_X1_15 rfl (fun q h => by cases h; rfl) ⟨rfl, rfl⟩ rfl ((vu_ne _ _ (Nat.ne_of_lt ha)).trans ht) ?_
  exact e_retV dX1_init_18 rfl rfl

set_option maxRecDepth 100000 in
set_option maxHeartbeats 4000000 in
theorem x_taskInit {G : GG} {m : Mem} {a : Nat} (ht : gT m a = 5) (x : Int32) : Ev G 1 uX4_init [.ref a, .int x] m none (tiM m a x) := by
  refine Ev.of (by decide +kernel) (Nat.le_of_ble_eq_true rfl) ?_
  refine e_lvs (lv' := [(0, .ref a), (1, .int x)]) rfl ?_
  refine e_aload_n 0 dX4_init_0 rfl ?_
  refine e_objInit dX4_init_1 lkm_X4_3 im_obj code_obj (by decide) ?_
  refine e_aload_n 0 dX4_init_4 rfl ?_
  refine e_ic (nI 0) dX4_init_5 (by decide) ?_
  refine e_putI (ci := 4) (k := 1) dX4_init_6 fl_X4_9 rfl (fun q h => by cases h; rfl) ⟨rfl, rfl⟩ (by (try simp only [gT_sI, gT_sL, gT_sP]); exact ht) ?_
  refine e_aload_n 0 dX4_init_9 rfl ?_
  refine e_ic (nI 0) dX4_init_10 (by decide) ?_
  refine e_putI (ci := 4) (k := 2) dX4_init_11 fl_X4_15 rfl (fun q h => by cases h; rfl) ⟨rfl, rfl⟩ (by (try simp only [gT_sI, gT_sL, gT_sP]); exact ht) ?_
  refine e_aload_n 0 dX4_init_14 rfl ?_
  refine e_ic (nI 1) dX4_init_15 (by decide) ?_
  refine e_putI (ci := 4) (k := 3) dX4_init_16 fl_X4_18 rfl (fun q h => by cases h; rfl) ⟨rfl, rfl⟩ (by (try simp only [gT_sI, gT_sL, gT_sP]); exact ht) ?_
  refine e_aload_n 0 dX4_init_19 rfl ?_
  refine e_lconst (v := lN 0) dX4_init_20 (by decide) ?_
  refine e_putL (ci := 4) (k := 4) dX4_init_21 fl_X4_21 rfl (fun q h => by cases h; rfl) ⟨rfl, rfl⟩ (by (try simp only [gT_sI, gT_sL, gT_sP]); exact ht) ?_
  refine e_aload_n 0 dX4_init_24 rfl ?_
  refine e_ic (nI 0) dX4_init_25 (by decide) ?_
  refine e_putI (ci := 4) (k := 5) dX4_init_26 fl_X4_25 rfl (fun q h => by cases h; rfl) ⟨rfl, rfl⟩ (by (try simp only [gT_sI, gT_sL, gT_sP]); exact ht) ?_
  refine e_aload_n 0 dX4_init_29 rfl ?_
  refine e_ic (nI 0) dX4_init_30 (by decide) ?_
  refine e_putI (ci := 4) (k := 6) dX4_init_31 fl_X4_28 rfl (fun q h => by cases h; rfl) ⟨rfl, rfl⟩ (by (try simp only [gT_sI, gT_sL, gT_sP]); exact ht) ?_
  refine e_aload_n 0 dX4_init_34 rfl ?_
  refine e_ic (nI 0) dX4_init_35 (by decide) ?_
  refine e_putI (ci := 4) (k := 7) dX4_init_36 fl_X4_31 rfl (fun q h => by cases h; rfl) ⟨rfl, rfl⟩ (by (try simp only [gT_sI, gT_sL, gT_sP]); exact ht) ?_
  refine e_aload_n 0 dX4_init_39 rfl ?_
  refine e_ic (nI 0) dX4_init_40 (by decide) ?_
  refine e_putI (ci := 4) (k := 8) dX4_init_41 fl_X4_34 rfl (fun q h => by cases h; rfl) ⟨rfl, rfl⟩ (by (try simp only [gT_sI, gT_sL, gT_sP]); exact ht) ?_
  refine e_aload_n 0 dX4_init_44 rfl ?_
  refine e_ic ((-1)) dX4_init_45 (by decide) ?_
  refine e_putI (ci := 4) (k := 9) dX4_init_46 fl_X4_37 rfl (fun q h => by cases h; rfl) ⟨rfl, rfl⟩ (by (try simp only [gT_sI, gT_sL, gT_sP]); exact ht) ?_
  refine e_aload_n 0 dX4_init_49 rfl ?_
  refine e_ic ((-1)) dX4_init_50 (by decide) ?_
  refine e_putI (ci := 4) (k := 10) dX4_init_51 fl_X4_40 rfl (fun q h => by cases h; rfl) ⟨rfl, rfl⟩ (by (try simp only [gT_sI, gT_sL, gT_sP]); exact ht) ?_
  refine e_aload_n 0 dX4_init_54 rfl ?_
  refine e_ic (nI 0) dX4_init_55 (by decide) ?_
  refine e_putI (ci := 4) (k := 11) dX4_init_56 fl_X4_43 rfl (fun q h => by cases h; rfl) ⟨rfl, rfl⟩ (by (try simp only [gT_sI, gT_sL, gT_sP]); exact ht) ?_
  refine e_aload_n 0 dX4_init_59 rfl ?_
  refine e_bipush (v := nI 100) dX4_init_60 (by decide) ?_
  refine e_putI (ci := 4) (k := 12) dX4_init_62 fl_X4_46 rfl (fun q h => by cases h; rfl) ⟨rfl, rfl⟩ (by (try simp only [gT_sI, gT_sL, gT_sP]); exact ht) ?_
  refine e_aload_n 0 dX4_init_65 rfl ?_
  refine e_ic (nI 0) dX4_init_66 (by decide) ?_
  refine e_putI (ci := 4) (k := 13) dX4_init_67 fl_X4_49 rfl (fun q h => by cases h; rfl) ⟨rfl, rfl⟩ (by (try simp only [gT_sI, gT_sL, gT_sP]); exact ht) ?_
  refine e_aload_n 0 dX4_init_70 rfl ?_
  refine e_ic (nI 0) dX4_init_71 (by decide) ?_
  refine e_putI (ci := 4) (k := 14) dX4_init_72 fl_X4_52 rfl (fun q h => by cases h; rfl) ⟨rfl, rfl⟩ (by (try simp only [gT_sI, gT_sL, gT_sP]); exact ht) ?_
  refine e_aload_n 0 dX4_init_75 rfl ?_
  refine e_ic (nI 0) dX4_init_76 (by decide) ?_
  refine e_putI (ci := 4) (k := 15) dX4_init_77 fl_X4_55 rfl (fun q h => by cases h; rfl) ⟨rfl, rfl⟩ (by (try simp only [gT_sI, gT_sL, gT_sP]); exact ht) ?_
  refine e_aload_n 0 dX4_init_80 rfl ?_
  refine e_ic ((-1)) dX4_init_81 (by decide) ?_
  refine e_putI (ci := 4) (k := 16) dX4_init_82 fl_X4_58 rfl (fun q h => by cases h; rfl) ⟨rfl, rfl⟩ (by (try simp only [gT_sI, gT_sL, gT_sP]); exact ht) ?_
  refine e_aload_n 0 dX4_init_85 rfl ?_
  refine e_null dX4_init_86 ?_
  refine e_putP (ci := 4) (k := 17) none dX4_init_87 fl_X4_61 rfl (fun q h => by cases h; rfl) ⟨rfl, rfl⟩ rfl (by (try simp only [gT_sI, gT_sL, gT_sP]); exact ht) ?_
  refine e_aload_n 0 dX4_init_90 rfl ?_
  refine e_lconst (v := lN 0) dX4_init_91 (by decide) ?_
  refine e_putL (ci := 4) (k := 18) dX4_init_92 fl_X4_65 rfl (fun q h => by cases h; rfl) ⟨rfl, rfl⟩ (by (try simp only [gT_sI, gT_sL, gT_sP]); exact ht) ?_
  refine e_aload_n 0 dX4_init_95 rfl ?_
  refine e_iload_n 1 dX4_init_96 rfl ?_
  refine e_putFI (ci := 4) (k := 0) dX4_init_97 rfl (by decide) fl_X4_68m rfl rfl rfl rfl ⟨rfl, rfl⟩ (by (try simp only [gT_sI, gT_sL, gT_sP]); exact ht) ?_
  exact e_retV dX4_init_100 rfl rfl

theorem ti_eqa (m : Mem) (a b : Nat) (x : Int32) (h : b ≠ a) : Eqa m (tiM m a x) b := by
  unfold tiM
  exact (((((((((((((((((((eqa_sI h).tr (eqa_sI h)).tr (eqa_sI h)).tr (eqa_sL h)).tr (eqa_sI h)).tr (eqa_sI h)).tr (eqa_sI h)).tr (eqa_sI h)).tr (eqa_sI h)).tr (eqa_sI h)).tr (eqa_sI h)).tr (eqa_sI h)).tr (eqa_sI h)).tr (eqa_sI h)).tr (eqa_sI h)).tr (eqa_sI h)).tr (eqa_sP h)).tr (eqa_sL h)).tr (eqa_sI h))
theorem gP_sI (m : Mem) (f a : Nat) (x : Int32) : gP (sI m f a x) = gP m := (Eq.refl _).trans (Eq.refl _)
theorem gP_sL (m : Mem) (f a : Nat) (x : Int64) : gP (sL m f a x) = gP m := (Eq.refl _).trans (Eq.refl _)
theorem gN_sI (m : Mem) (f a : Nat) (x : Int32) : gN (sI m f a x) = gN m := (Eq.refl _).trans (Eq.refl _)
theorem gN_sL (m : Mem) (f a : Nat) (x : Int64) : gN (sL m f a x) = gN m := (Eq.refl _).trans (Eq.refl _)
theorem gN_sP (m : Mem) (f a : Nat) (x : Option Nat) : gN (sP m f a x) = gN m := (Eq.refl _).trans (Eq.refl _)
theorem zz_sI (m : Mem) (f a : Nat) (x : Int32) : zz (sI m f a x) = zz m := (Eq.refl _).trans (Eq.refl _)
theorem zz_sL (m : Mem) (f a : Nat) (x : Int64) : zz (sL m f a x) = zz m := (Eq.refl _).trans (Eq.refl _)
theorem zz_sP (m : Mem) (f a : Nat) (x : Option Nat) : zz (sP m f a x) = zz m := (Eq.refl _).trans (Eq.refl _)
theorem nn_sI (m : Mem) (f a : Nat) (x : Int32) : nn (sI m f a x) = nn m := (Eq.refl _).trans (Eq.refl _)
theorem nn_sL (m : Mem) (f a : Nat) (x : Int64) : nn (sL m f a x) = nn m := (Eq.refl _).trans (Eq.refl _)
theorem nn_sP (m : Mem) (f a : Nat) (x : Option Nat) : nn (sP m f a x) = nn m := (Eq.refl _).trans (Eq.refl _)
theorem ti_f (m : Mem) (a : Nat) (x : Int32) : gT (tiM m a x) = gT m ∧ gN (tiM m a x) = gN m ∧ zz (tiM m a x) = zz m ∧ nn (tiM m a x) = nn m ∧ gI (tiM m a x) 80 a = x ∧ gP (tiM m a x) 97 a = none := by
  unfold tiM
  refine ⟨by simp only [gT_sI, gT_sL, gT_sP], by simp only [gN_sI, gN_sL, gN_sP], by simp only [zz_sI, zz_sL, zz_sP], by simp only [nn_sI, nn_sL, nn_sP], u2_eq _ 80 a x, ?_⟩
  rw [gP_sI, gP_sL]
  exact u2_eq _ 97 a none
/-- a new cell and nothing else -/
theorem nw_eqa (m : Mem) (t n : Nat) {b : Nat} (h : b < zz m) : Eqa m (nw m t n) b ∧ gT (nw m t n) b = gT m b ∧ gN (nw m t n) b = gN m b := by
  have e : b ≠ zz m := by omega
  refine ⟨⟨fun f => ?_, fun f => ?_, fun f => ?_, ?_, ?_, ?_⟩, vu_ne _ _ e, vu_ne _ _ e⟩
  · show z2 (gI m) (zz m) 0 f b = _
    unfold z2
    rw [if_neg e]
  · show z2 (gL m) (zz m) 0 f b = _
    unfold z2
    rw [if_neg e]
  · show z2 (gP m) (zz m) none f b = _
    unfold z2
    rw [if_neg e]
  · show zr (aI m) (zz m) 0 b = _
    funext i
    unfold zr
    rw [if_neg e]
  · show zr (aL m) (zz m) 0 b = _
    funext i
    unfold zr
    rw [if_neg e]
  · show zr (aP m) (zz m) none b = _
    funext i
    unfold zr
    rw [if_neg e]
theorem nw_0 (m : Mem) (t n : Nat) : gT (nw m t n) (zz m) = t ∧ gN (nw m t n) (zz m) = n ∧ (∀ i, aI (nw m t n) (zz m) i = 0) ∧ zz (nw m t n) = zz m + 1 ∧ nn (nw m t n) = nn m + n := by
  refine ⟨vu_eq _ _ _, vu_eq _ _ _, fun i => ?_, rfl, rfl⟩
  show zr (aI m) (zz m) 0 (zz m) i = 0
  unfold zr
  rw [if_pos rfl]
theorem ri_f (m : Mem) {a : Nat} (ha : a < zz m) : zz (riM m a) = zz m + 1 ∧ nn (riM m a) = nn m + 320 ∧ gT (riM m a) (zz m) = 12 ∧ gN (riM m a) (zz m) = 320 ∧ (∀ i, aI (riM m a) (zz m) i = 0) ∧ gI (riM m a) 60 a = nI 0 ∧ gP (riM m a) 61 a = some (zz m) ∧ (∀ b, b < zz m → gT (riM m a) b = gT m b ∧ gN (riM m a) b = gN m b ∧ (b ≠ a → Eqa m (riM m a) b)) := by
  obtain ⟨w1, w2, w3, w4, w5⟩ := nw_0 (sI m 60 a (nI 0)) 12 320
  refine ⟨w4, w5, w1, w2, w3, ?_, u2_eq _ 61 a (some (zz m)), fun b hb => ?_⟩
  · exact ((nw_eqa (sI m 60 a (nI 0)) 12 320 ha).1.1 60).trans (u2_eq (gI m) 60 a (nI 0))
  · obtain ⟨e1, e2, e3⟩ := nw_eqa (sI m 60 a (nI 0)) 12 320 hb
    exact ⟨e2, e3, fun h => ((eqa_sI h).tr e1).tr (eqa_sP h)⟩
theorem pi_f (m : Mem) {a : Nat} (ha : a < zz m) : zz (piM m a) = zz m + 1 ∧ nn (piM m a) = nn m + 32 ∧ gT (piM m a) (zz m) = 11 ∧ gN (piM m a) (zz m) = 32 ∧ (∀ i, aI (piM m a) (zz m) i = 0) ∧ gI (piM m a) 40 a = -1 ∧ gP (piM m a) 41 a = some (zz m) ∧ (∀ b, b < zz m → gT (piM m a) b = gT m b ∧ gN (piM m a) b = gN m b ∧ (b ≠ a → Eqa m (piM m a) b)) := by
  obtain ⟨w1, w2, w3, w4, w5⟩ := nw_0 (sI m 40 a (-1)) 11 32
  refine ⟨w4, w5, w1, w2, w3, ?_, u2_eq _ 41 a (some (zz m)), fun b hb => ?_⟩
  · exact ((nw_eqa (sI m 40 a (-1)) 11 32 ha).1.1 40).trans (u2_eq (gI m) 40 a (-1))
  · obtain ⟨e1, e2, e3⟩ := nw_eqa (sI m 40 a (-1)) 11 32 hb
    exact ⟨e2, e3, fun h => ((eqa_sI h).tr e1).tr (eqa_sP h)⟩
theorem ni_f (m : Mem) {a : Nat} (ha : a < zz m) : zz (niM m a) = zz m + 1 ∧ nn (niM m a) = nn m + 256 ∧ gT (niM m a) (zz m) = 13 ∧ gN (niM m a) (zz m) = 256 ∧ gI (niM m a) 20 a = nI 0 ∧ gP (niM m a) 21 a = some (zz m) ∧ (∀ b, b < zz m → gT (niM m a) b = gT m b ∧ gN (niM m a) b = gN m b ∧ (b ≠ a → Eqa m (niM m a) b)) := by
  obtain ⟨w1, w2, w3, w4, w5⟩ := nw_0 (sI m 20 a (nI 0)) 13 256
  refine ⟨w4, w5, w1, w2, ?_, u2_eq _ 21 a (some (zz m)), fun b hb => ?_⟩
  · exact ((nw_eqa (sI m 20 a (nI 0)) 13 256 ha).1.1 20).trans (u2_eq (gI m) 20 a (nI 0))
  · obtain ⟨e1, e2, e3⟩ := nw_eqa (sI m 20 a (nI 0)) 13 256 hb
    exact ⟨e2, e3, fun h => ((eqa_sI h).tr e1).tr (eqa_sP h)⟩
