/-! the class: a kernel whose content is not known; clear -/
def KU (Z : Mem × YY) (m : Mem) (Y : YY) : Prop := KT m Y ∧ True ∧ FK Z m Y
theorem KQ.u {Z : Mem × YY} {m : Mem} {Y : YY} {ρ n : Nat} {kf : KF} {vf : VF} (h : KQ Z m Y ρ kf vf n) : KU Z m Y := ⟨h.1, trivial, h.2.2⟩
theorem gI_na {m : Mem} {f a f' a' : Nat} {x : Int32} (h : a' ≠ a) : gI (sI m f a x) f' a' = gI m f' a' := u2_na _ _ h
theorem gI_nf {m : Mem} {f a f' a' : Nat} {x : Int32} (h : f' ≠ f) : gI (sI m f a x) f' a' = gI m f' a' := u2_nf _ _ h
section KUs
variable {Z : Mem × YY} {m : Mem} {Y : YY}
theorem KU.T (h : KU Z m Y) (r : Nat) (hr : r < 273) : gT m (Y.1 r) = tyR r := (h.1.1 r hr).1
theorem KU.Tt (h : KU Z m Y) {t : Nat} (ht : t < 200) : gT m (Y.1 (9 + t)) = 5 := by
  rw [h.T _ (by omega), tyR, if_neg (by omega), if_neg (by omega), if_neg (by omega), if_neg (by omega), if_neg (by omega), if_pos (by omega)]
theorem KU.Tp (h : KU Z m Y) {p : Nat} (hp : p < 32) : gT m (Y.1 (209 + p)) = 3 := by
  rw [h.T _ (by omega), tyR, if_neg (by omega), if_neg (by omega), if_neg (by omega), if_neg (by omega), if_neg (by omega), if_neg (by omega), if_pos (by omega)]
theorem KU.Tb (h : KU Z m Y) {p : Nat} (hp : p < 32) : gT m (Y.1 (241 + p)) = 11 := by
  rw [h.T _ (by omega), tyR, if_neg (by omega), if_neg (by omega), if_neg (by omega), if_neg (by omega), if_neg (by omega), if_neg (by omega), if_neg (by omega)]
theorem KU.pt (h : KU Z m Y) {t : Nat} (ht : t < 200) : aP m (Y.1 1) t = some (Y.1 (9 + t)) := (h.1.2.2.2.2.1 t ht).1
theorem KU.pp (h : KU Z m Y) {p : Nat} (hp : p < 32) : aP m (Y.1 2) p = some (Y.1 (209 + p)) := (h.1.2.2.2.1 p hp).1
theorem KU.sI (h : KU Z m Y) {f r : Nat} {x : Int32} (hf : f ≠ 80) (hr : r < 241) : KU Z (sI m f (Y.1 r) x) Y := ⟨h.1.sI hf, trivial, h.2.2.sI (h.1.ow (by omega)) (by omega)⟩
theorem KU.sL (h : KU Z m Y) {f r : Nat} {x : Int64} (hr : r < 241) : KU Z (sL m f (Y.1 r) x) Y := ⟨h.1.sL, trivial, h.2.2.sL (h.1.ow (by omega)) (by omega)⟩
theorem KU.sAI (h : KU Z m Y) {i r : Nat} {x : Int32} (hr : r < 241) : KU Z (sAI m (Y.1 r) i x) Y := ⟨h.1.sAI, trivial, h.2.2.sAI (h.1.ow (by omega)) (by omega)⟩
theorem KU.fl (h : KU Z m Y) {r : Nat} {x : Int32} (hr : r < 241) : ∀ i, KU Z (flM m (Y.1 r) x i) Y := by
  intro i
  induction i with
  | zero => exact h
  | succ i ih => exact ih.sAI hr
theorem fl_I (a : Nat) (x : Int32) (n : Nat) : gI (flM m a x n) = gI m := by
  induction n with
  | zero => rfl
  | succ n ih => exact ih
theorem fl_z (a : Nat) (x : Int32) (n : Nat) : zz (flM m a x n) = zz m ∧ nn (flM m a x n) = nn m ∧ aL (flM m a x n) = aL m ∧ aP (flM m a x n) = aP m := by
  induction n with
  | zero => exact ⟨rfl, rfl, rfl, rfl⟩
  | succ n ih => exact ih
theorem fl_ne (a : Nat) (x : Int32) {b : Nat} (h : b ≠ a) (n : Nat) : aI (flM m a x n) b = aI m b := by
  induction n with
  | zero => rfl
  | succ n ih =>
    rw [← ih]
    funext j
    exact u2_nf _ _ h
/-- the beginning -/
def KI (kf : KF) : Prop := kf 0 = nI 0 ∧ kf 1 = nI 0 ∧ kf 2 = nI 1 ∧ kf 3 = nI 0 ∧ kf 4 = nI 0 ∧ kf 5 = nI 0 ∧ (∀ i, i < 4 → kf (7 + i) = -1) ∧ (∀ i, i < 12 → kf (220 + i) = nI 0) ∧ (∀ l, l < 100 → kf (240 + l) = -2) ∧ ∀ p, p < 32 → kf (340 + p) = -1
theorem KI.kv {ρ : Nat} {kf : KF} {vf : VF} (h : KI kf) (g7 : gI m 7 (Y.1 0) = nI 0) (g8 : gI m 8 (Y.1 0) = nI 0) (g9 : gI m 9 (Y.1 0) = nI 1) (g10 : gI m 10 (Y.1 0) = nI 0) (g11 : gI m 11 (Y.1 0) = nI 0) (g60 : gI m 60 (Y.1 3) = nI 0) (gp : ∀ p, p < 32 → gI m 40 (Y.1 (209 + p)) = -1) (a5 : ∀ l, l < 100 → aI m (Y.1 5) l = -2) (a6 : ∀ i, i < 4 → aI m (Y.1 6) i = -1) (a8 : ∀ i, i < 12 → aI m (Y.1 8) i = nI 0) : KV m Y ρ kf vf 0 := by
  obtain ⟨k0, k1, k2, k3, k4, k5, k7, k220, k240, k340⟩ := h
  have pl : ∀ p, p < 32 → plen kf p = 0 := fun p hp => by unfold plen; rw [k340 p hp]; decide
  refine ⟨⟨g8.trans k0.symm, g7.trans k1.symm, g9.trans k2.symm, g60.trans k3.symm, g11.trans k4.symm, g10.trans k5.symm⟩, ⟨fun i hi => (a6 i hi).trans (k7 i hi).symm, fun i hi hi2 => ?_, fun i hi => (a8 i hi).trans (k220 i hi).symm, fun l hl => (a5 l hl).trans (k240 l hl).symm⟩, fun p hp => ⟨(gp p hp).trans (k340 p hp).symm, by rw [pl p hp]; exact Nat.zero_le _, fun i hi => by rw [pl p hp] at hi; exact absurd hi (Nat.not_lt_zero _)⟩, fun t ht => absurd ht (Nat.not_lt_zero _), ⟨by rw [k3, nI_clamp (by omega)]; exact Nat.zero_le _, fun i hi => by rw [k3, nI_clamp (by omega)] at hi; exact absurd hi (by omega)⟩, k1, by omega⟩
  rw [k5] at hi2
  exact absurd ((nI_ltI (by omega) (by omega)).mp hi2) (Nat.not_lt_zero _)
end KUs
section Class21
variable {G : GG} {Z : Mem × YY} {m : Mem} {Y : YY} {ρ n : Nat} {kf : KF} {vf : VF}

set_option maxRecDepth 100000 in
set_option maxHeartbeats 4000000 in
theorem k_clear (hu : KU Z m Y) (hK : KI kf) : EvC G 1 uX0_clear [.ref (Y.1 0)] m (fun r mm => r = none ∧ KQ Z mm Y ρ kf vf 0) := by
  refine EvC.of (by decide +kernel) (Nat.le_of_ble_eq_true rfl) ?_
  have L : ∀ (k i : Nat) (M : Mem), i + k = 32 → KU Z M Y → (∀ p, p < i → gI M 40 (Y.1 (209 + p)) = -1) → EvR G 1 uX0_clear (zz m) (nn m) (fun r mm => r = none ∧ KQ Z mm Y ρ kf vf 0) 2 [(1, .int (nI i)), (0, .ref (Y.1 0))] [] M := by
    intro k
    induction k with
    | zero =>
      intro i M hi hI hf
      have f0 : ∀ p, p < 32 → gI M 40 (Y.1 (209 + p)) = -1 := fun p hp => hf p (by omega)
      refine r_go (fun kk => e_iload_n 0 dX0_clear_2 rfl kk) ?_
      refine r_go (fun kk => e_bipush (v := nI 32) dX0_clear_3 (by decide) kk) ?_
      refine r_go (fun kk => e_icmp_geN 24 dX0_clear_5 (by decide) (by omega) (by omega) (fun _ => kk) (fun h => absurd h (by omega))) ?_
      refine r_go (fun kk => e_aload_n 1 dX0_clear_24 rfl kk) ?_
      refine r_go (fun kk => e_getP (some (Y.1 3)) dX0_clear_25 fl_X0_26 rfl (hI.T 0 (by decide)) (hI.1.2.2.1.2.2.1) kk) ?_
      refine r_go (fun kk => e_ic (nI 0) dX0_clear_28 (by decide) kk) ?_
      refine r_go (fun kk => e_putI (ci := 3) (k := 0) dX0_clear_29 fl_X0_72 rfl (fun q h => by cases h; rfl) ⟨rfl, rfl⟩ (hI.T 3 (by decide)) kk) ?_
      refine r_gen (fun mm => KU Z mm Y ∧ (∀ p, p < 32 → gI mm 40 (Y.1 (209 + p)) = -1) ∧ gI mm 60 (Y.1 3) = nI 0) ⟨hI.sI (r := 3) (by omega) (by omega), fun p hp => (gI_na (hI.1.inj (r := 209 + p) (s := 3) (by omega) (by omega) (by omega))).trans (f0 p hp), u2_eq (gI M) 60 (Y.1 3) _⟩ (fun z2 hy => ?_)
      obtain ⟨hu2, f0, f1⟩ := hy
      refine r_go (fun kk => e_aload_n 1 dX0_clear_32 rfl kk) ?_
      refine r_go (fun kk => e_getP (some (Y.1 5)) dX0_clear_33 fl_X0_30 rfl (hu2.T 0 (by decide)) (hu2.1.2.2.1.2.2.2.1) kk) ?_
      refine r_go (fun kk => e_bipush (v := (-2)) dX0_clear_36 (by decide) kk) ?_
      refine r_go (fun kk => e_callS (st := []) (st1 := []) (As := [.ref (Y.1 5), .int (-2)]) (a_fillI (G := G) (x := (-2)) (hu2.T 5 (by decide)) (by rw [hu2.1.2.1.2.2.1]; decide)) dX0_clear_38 (by decide) cm_J7_fill_53178 lk_X0_63 sm_J7_fill_53178 rfl rfl (Nat.le_of_ble_eq_true rfl) rfl kk) ?_
      rw [hu2.1.2.1.2.2.1]
      refine r_gen (fun mm => KU Z mm Y ∧ (∀ p, p < 32 → gI mm 40 (Y.1 (209 + p)) = -1) ∧ gI mm 60 (Y.1 3) = nI 0 ∧ (∀ l, l < 100 → aI mm (Y.1 5) l = -2)) ⟨hu2.fl (r := 5) (by omega) 100, fun p hp => by rw [fl_I]; exact f0 p hp, by rw [fl_I]; exact f1, fl_at _ _ _⟩ (fun z3 hy => ?_)
      obtain ⟨hu3, f0, f1, f2⟩ := hy
      refine r_go (fun kk => e_aload_n 1 dX0_clear_41 rfl kk) ?_
      refine r_go (fun kk => e_getP (some (Y.1 6)) dX0_clear_42 fl_X0_34 rfl (hu3.T 0 (by decide)) (hu3.1.2.2.1.2.2.2.2.1) kk) ?_
      refine r_go (fun kk => e_ic ((-1)) dX0_clear_45 (by decide) kk) ?_
      refine r_go (fun kk => e_callS (st := []) (st1 := []) (As := [.ref (Y.1 6), .int (-1)]) (a_fillI (G := G) (x := (-1)) (hu3.T 6 (by decide)) (by rw [hu3.1.2.1.2.2.2.1]; decide)) dX0_clear_46 (by decide) cm_J7_fill_53178 lk_X0_63 sm_J7_fill_53178 rfl rfl (Nat.le_of_ble_eq_true rfl) rfl kk) ?_
      rw [hu3.1.2.1.2.2.2.1]
      refine r_gen (fun mm => KU Z mm Y ∧ (∀ p, p < 32 → gI mm 40 (Y.1 (209 + p)) = -1) ∧ gI mm 60 (Y.1 3) = nI 0 ∧ (∀ l, l < 100 → aI mm (Y.1 5) l = -2) ∧ (∀ i, i < 4 → aI mm (Y.1 6) i = -1)) ⟨hu3.fl (r := 6) (by omega) 4, fun p hp => by rw [fl_I]; exact f0 p hp, by rw [fl_I]; exact f1, fun i hi => by rw [fl_ne _ _ (hu3.1.inj (r := 5) (s := 6) (by omega) (by omega) (by omega))]; exact f2 i hi, fl_at _ _ _⟩ (fun z4 hy => ?_)
      obtain ⟨hu4, f0, f1, f2, f3⟩ := hy
      refine r_go (fun kk => e_aload_n 1 dX0_clear_49 rfl kk) ?_
      refine r_go (fun kk => e_getP (some (Y.1 8)) dX0_clear_50 fl_X0_40 rfl (hu4.T 0 (by decide)) (hu4.1.2.2.1.2.2.2.2.2.2.1) kk) ?_
      refine r_go (fun kk => e_ic (nI 0) dX0_clear_53 (by decide) kk) ?_
      refine r_go (fun kk => e_callS (st := []) (st1 := []) (As := [.ref (Y.1 8), .int (nI 0)]) (a_fillI (G := G) (x := (nI 0)) (hu4.T 8 (by decide)) (by rw [hu4.1.2.1.2.2.2.2.2]; decide)) dX0_clear_54 (by decide) cm_J7_fill_53178 lk_X0_63 sm_J7_fill_53178 rfl rfl (Nat.le_of_ble_eq_true rfl) rfl kk) ?_
      rw [hu4.1.2.1.2.2.2.2.2]
      refine r_gen (fun mm => KU Z mm Y ∧ (∀ p, p < 32 → gI mm 40 (Y.1 (209 + p)) = -1) ∧ gI mm 60 (Y.1 3) = nI 0 ∧ (∀ l, l < 100 → aI mm (Y.1 5) l = -2) ∧ (∀ i, i < 4 → aI mm (Y.1 6) i = -1) ∧ (∀ i, i < 12 → aI mm (Y.1 8) i = nI 0)) ⟨hu4.fl (r := 8) (by omega) 12, fun p hp => by rw [fl_I]; exact f0 p hp, by rw [fl_I]; exact f1, fun i hi => by rw [fl_ne _ _ (hu4.1.inj (r := 5) (s := 8) (by omega) (by omega) (by omega))]; exact f2 i hi, fun i hi => by rw [fl_ne _ _ (hu4.1.inj (r := 6) (s := 8) (by omega) (by omega) (by omega))]; exact f3 i hi, fl_at _ _ _⟩ (fun z5 hy => ?_)
      obtain ⟨hu5, f0, f1, f2, f3, f4⟩ := hy
      refine r_go (fun kk => e_aload_n 1 dX0_clear_57 rfl kk) ?_
      refine r_go (fun kk => e_ic (nI 0) dX0_clear_58 (by decide) kk) ?_
      refine r_go (fun kk => e_putI (ci := 0) (k := 7) dX0_clear_59 fl_X0_43 rfl (fun q h => by cases h; rfl) ⟨rfl, rfl⟩ (hu5.T 0 (by decide)) kk) ?_
      refine r_gen (fun mm => KU Z mm Y ∧ (∀ p, p < 32 → gI mm 40 (Y.1 (209 + p)) = -1) ∧ gI mm 60 (Y.1 3) = nI 0 ∧ (∀ l, l < 100 → aI mm (Y.1 5) l = -2) ∧ (∀ i, i < 4 → aI mm (Y.1 6) i = -1) ∧ (∀ i, i < 12 → aI mm (Y.1 8) i = nI 0) ∧ gI mm 7 (Y.1 0) = nI 0) ⟨hu5.sI (r := 0) (by omega) (by omega), fun p hp => (gI_na (hu5.1.inj (r := 209 + p) (s := 0) (by omega) (by omega) (by omega))).trans (f0 p hp), (gI_na (hu5.1.inj (r := 3) (s := 0) (by omega) (by omega) (by omega))).trans f1, f2, f3, f4, u2_eq (gI z5) 7 (Y.1 0) _⟩ (fun z6 hy => ?_)
      obtain ⟨hu6, f0, f1, f2, f3, f4, f5⟩ := hy
      refine r_go (fun kk => e_aload_n 1 dX0_clear_62 rfl kk) ?_
      refine r_go (fun kk => e_ic (nI 0) dX0_clear_63 (by decide) kk) ?_
      refine r_go (fun kk => e_putI (ci := 0) (k := 8) dX0_clear_64 fl_X0_47 rfl (fun q h => by cases h; rfl) ⟨rfl, rfl⟩ (hu6.T 0 (by decide)) kk) ?_
      refine r_gen (fun mm => KU Z mm Y ∧ (∀ p, p < 32 → gI mm 40 (Y.1 (209 + p)) = -1) ∧ gI mm 60 (Y.1 3) = nI 0 ∧ (∀ l, l < 100 → aI mm (Y.1 5) l = -2) ∧ (∀ i, i < 4 → aI mm (Y.1 6) i = -1) ∧ (∀ i, i < 12 → aI mm (Y.1 8) i = nI 0) ∧ gI mm 7 (Y.1 0) = nI 0 ∧ gI mm 8 (Y.1 0) = nI 0) ⟨hu6.sI (r := 0) (by omega) (by omega), fun p hp => (gI_na (hu6.1.inj (r := 209 + p) (s := 0) (by omega) (by omega) (by omega))).trans (f0 p hp), (gI_na (hu6.1.inj (r := 3) (s := 0) (by omega) (by omega) (by omega))).trans f1, f2, f3, f4, (gI_nf (by omega)).trans f5, u2_eq (gI z6) 8 (Y.1 0) _⟩ (fun z7 hy => ?_)
      obtain ⟨hu7, f0, f1, f2, f3, f4, f5, f6⟩ := hy
      refine r_go (fun kk => e_aload_n 1 dX0_clear_67 rfl kk) ?_
      refine r_go (fun kk => e_ic (nI 1) dX0_clear_68 (by decide) kk) ?_
      refine r_go (fun kk => e_putI (ci := 0) (k := 9) dX0_clear_69 fl_X0_50 rfl (fun q h => by cases h; rfl) ⟨rfl, rfl⟩ (hu7.T 0 (by decide)) kk) ?_
      refine r_gen (fun mm => KU Z mm Y ∧ (∀ p, p < 32 → gI mm 40 (Y.1 (209 + p)) = -1) ∧ gI mm 60 (Y.1 3) = nI 0 ∧ (∀ l, l < 100 → aI mm (Y.1 5) l = -2) ∧ (∀ i, i < 4 → aI mm (Y.1 6) i = -1) ∧ (∀ i, i < 12 → aI mm (Y.1 8) i = nI 0) ∧ gI mm 7 (Y.1 0) = nI 0 ∧ gI mm 8 (Y.1 0) = nI 0 ∧ gI mm 9 (Y.1 0) = nI 1) ⟨hu7.sI (r := 0) (by omega) (by omega), fun p hp => (gI_na (hu7.1.inj (r := 209 + p) (s := 0) (by omega) (by omega) (by omega))).trans (f0 p hp), (gI_na (hu7.1.inj (r := 3) (s := 0) (by omega) (by omega) (by omega))).trans f1, f2, f3, f4, (gI_nf (by omega)).trans f5, (gI_nf (by omega)).trans f6, u2_eq (gI z7) 9 (Y.1 0) _⟩ (fun z8 hy => ?_)
      obtain ⟨hu8, f0, f1, f2, f3, f4, f5, f6, f7⟩ := hy
      refine r_go (fun kk => e_aload_n 1 dX0_clear_72 rfl kk) ?_
      refine r_go (fun kk => e_ic (nI 0) dX0_clear_73 (by decide) kk) ?_
      refine r_go (fun kk => e_putI (ci := 0) (k := 10) dX0_clear_74 fl_X0_53 rfl (fun q h => by cases h; rfl) ⟨rfl, rfl⟩ (hu8.T 0 (by decide)) kk) ?_
      refine r_gen (fun mm => KU Z mm Y ∧ (∀ p, p < 32 → gI mm 40 (Y.1 (209 + p)) = -1) ∧ gI mm 60 (Y.1 3) = nI 0 ∧ (∀ l, l < 100 → aI mm (Y.1 5) l = -2) ∧ (∀ i, i < 4 → aI mm (Y.1 6) i = -1) ∧ (∀ i, i < 12 → aI mm (Y.1 8) i = nI 0) ∧ gI mm 7 (Y.1 0) = nI 0 ∧ gI mm 8 (Y.1 0) = nI 0 ∧ gI mm 9 (Y.1 0) = nI 1 ∧ gI mm 10 (Y.1 0) = nI 0) ⟨hu8.sI (r := 0) (by omega) (by omega), fun p hp => (gI_na (hu8.1.inj (r := 209 + p) (s := 0) (by omega) (by omega) (by omega))).trans (f0 p hp), (gI_na (hu8.1.inj (r := 3) (s := 0) (by omega) (by omega) (by omega))).trans f1, f2, f3, f4, (gI_nf (by omega)).trans f5, (gI_nf (by omega)).trans f6, (gI_nf (by omega)).trans f7, u2_eq (gI z8) 10 (Y.1 0) _⟩ (fun z9 hy => ?_)
      obtain ⟨hu9, f0, f1, f2, f3, f4, f5, f6, f7, f8⟩ := hy
      refine r_go (fun kk => e_aload_n 1 dX0_clear_77 rfl kk) ?_
      refine r_go (fun kk => e_ic (nI 0) dX0_clear_78 (by decide) kk) ?_
      refine r_go (fun kk => e_putI (ci := 0) (k := 11) dX0_clear_79 fl_X0_56 rfl (fun q h => by cases h; rfl) ⟨rfl, rfl⟩ (hu9.T 0 (by decide)) kk) ?_
      refine r_gen (fun mm => KU Z mm Y ∧ (∀ p, p < 32 → gI mm 40 (Y.1 (209 + p)) = -1) ∧ gI mm 60 (Y.1 3) = nI 0 ∧ (∀ l, l < 100 → aI mm (Y.1 5) l = -2) ∧ (∀ i, i < 4 → aI mm (Y.1 6) i = -1) ∧ (∀ i, i < 12 → aI mm (Y.1 8) i = nI 0) ∧ gI mm 7 (Y.1 0) = nI 0 ∧ gI mm 8 (Y.1 0) = nI 0 ∧ gI mm 9 (Y.1 0) = nI 1 ∧ gI mm 10 (Y.1 0) = nI 0 ∧ gI mm 11 (Y.1 0) = nI 0) ⟨hu9.sI (r := 0) (by omega) (by omega), fun p hp => (gI_na (hu9.1.inj (r := 209 + p) (s := 0) (by omega) (by omega) (by omega))).trans (f0 p hp), (gI_na (hu9.1.inj (r := 3) (s := 0) (by omega) (by omega) (by omega))).trans f1, f2, f3, f4, (gI_nf (by omega)).trans f5, (gI_nf (by omega)).trans f6, (gI_nf (by omega)).trans f7, (gI_nf (by omega)).trans f8, u2_eq (gI z9) 11 (Y.1 0) _⟩ (fun z10 hy => ?_)
      obtain ⟨hu10, f0, f1, f2, f3, f4, f5, f6, f7, f8, f9⟩ := hy
      exact r_ret ⟨rfl, hu10.1, hK.kv f5 f6 f7 f8 f9 f1 f0 f2 f3 f4, hu10.2.2⟩ (e_retV dX0_clear_82 rfl rfl)
    | succ k ih =>
      intro i M hi hI hf
      refine r_go (fun kk => e_iload_n 0 dX0_clear_2 rfl kk) ?_
      refine r_go (fun kk => e_bipush (v := nI 32) dX0_clear_3 (by decide) kk) ?_
      refine r_go (fun kk => e_icmp_geN 24 dX0_clear_5 (by decide) (by omega) (by omega) (fun h => absurd h (by omega)) (fun _ => kk)) ?_
      refine r_go (fun kk => e_aload_n 1 dX0_clear_8 rfl kk) ?_
      refine r_go (fun kk => e_getP (some (Y.1 2)) dX0_clear_9 fl_X0_19 rfl (hI.T 0 (by decide)) (hI.1.2.2.1.2.1) kk) ?_
      refine r_go (fun kk => e_iload_n 0 dX0_clear_12 rfl kk) ?_
      refine r_go (fun kk => e_aaldN (some (Y.1 (209 + i))) dX0_clear_13 (hI.T 2 (by decide)) (Or.inl rfl) (by rw [hI.1.2.1.2.1]; exact (by omega)) (by rw [hI.1.2.1.2.1]; decide) (hI.pp (by omega)) kk) ?_
      refine r_go (fun kk => e_ic ((-1)) dX0_clear_14 (by decide) kk) ?_
      refine r_go (fun kk => e_putI (ci := 2) (k := 0) dX0_clear_15 fl_X0_69 rfl (fun q h => by cases h; rfl) ⟨rfl, rfl⟩ (hI.Tp (by omega)) kk) ?_
      refine r_gen (fun mm => KU Z mm Y ∧ (∀ p, p < i + 1 → gI mm 40 (Y.1 (209 + p)) = -1)) ⟨hI.sI (r := 209 + i) (by omega) (by omega), fun p hp => ?_⟩ (fun M2 hI2 => ?_)
      · by_cases e : p = i
        · subst e
          exact u2_eq (gI M) 40 (Y.1 (209 + p)) _
        · exact (gI_na (hI.1.inj (r := 209 + p) (s := 209 + i) (by omega) (by omega) (by omega))).trans (hf p (by omega))
      refine r_go (fun kk => e_iinc1N (lv' := [(1, .int (nI (i + 1))), (0, .ref (Y.1 0))]) 0 dX0_clear_18 rfl (by decide) rfl kk) ?_
      refine r_go (fun kk => e_goto 2 dX0_clear_21 (by decide) kk) ?_
      refine r_go (fun kk => e_sub [0, 1] rfl kk) ?_
      exact ih (i + 1) M2 (by omega) hI2.1 hI2.2
  refine r_go (fun kk => e_lvs (lv' := [(0, .ref (Y.1 0))]) rfl kk) ?_
  refine r_go (fun kk => e_ic (nI 0) dX0_clear_0 (by decide) kk) ?_
  refine r_go (fun kk => e_istore_n (lv' := [(1, .int (nI 0)), (0, .ref (Y.1 0))]) dX0_clear_1 (by decide) rfl kk) ?_
  refine r_go (fun kk => e_sub [0, 1] rfl kk) ?_
  exact L 32 0 m (by omega) hu (fun p hp => absurd hp (Nat.not_lt_zero _))

end Class21
