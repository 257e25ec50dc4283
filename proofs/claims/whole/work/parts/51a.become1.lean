/-! the class: one kernel becomes another; tasks -/
theorem FK.tr {Z : Mem × YY} {m m' : Mem} {Y Y' : YY} (h : FK Z m Y) (k : FK (m, Y) m' Y') : FK Z m' Y' := by
  obtain ⟨h1, h2, h3, h4, h5, h6, h7⟩ := h
  obtain ⟨k1, k2, k3, k4, k5, k6, k7⟩ := k
  have k2 : Y'.2.1 = Y.2.1 := k2
  have k1 : zz m ≤ zz m' := k1
  have k4 : nn m' + pot Y.2.2.1 = nn m + pot Y'.2.2.1 := k4
  have k5 : 16 * zz m' + pot Y.2.2.1 ≤ 16 * zz m + pot Y'.2.2.1 := k5
  refine ⟨Nat.le_trans h1 k1, k2.trans h2, fun a ha => ?_, by omega, by omega, k6, fun a g1 g2 => ?_⟩
  · obtain ⟨a1, a2, a3, a4⟩ := h3 a ha
    obtain ⟨b1, b2, b3, b4⟩ := k3 a (Nat.lt_of_lt_of_le ha h1)
    have b1 : Y'.2.2.2 a = Y.2.2.2 a := b1
    exact ⟨b1.trans a1, b2.trans a2, b3.trans a3, fun q => (a4 q).tr (b4 (by show ¬ Ow Y.2.1 (Y.2.2.2 a); rw [h2, a1]; exact q))⟩
  · rcases Nat.lt_or_ge a (zz m) with z | z
    · have e : Y'.2.2.2 a = Y.2.2.2 a := (k3 a z).1
      rw [e]
      exact h7 a g1 z
    · have e := k7 a z g2
      rw [← h2]
      exact e
theorem KU.tr {Z : Mem × YY} {m m' : Mem} {Y Y' : YY} (h : KU Z m Y) (k : KU (m, Y) m' Y') : KU Z m' Y' := ⟨k.1, trivial, h.2.2.tr k.2.2⟩
theorem KU.rf {Z : Mem × YY} {m : Mem} {Y : YY} (h : KU Z m Y) : KU (m, Y) m Y := ⟨h.1, trivial, FK.rf m Y h.2.2.2.2.2.2.2.1⟩
theorem gw_FKz {Z : Mem × YY} {m : Mem} {Y : YY} {r0 rw fw ty N : Nat} {g : Nat → Int32} (hT : KT m Y) (h : FK Z m Y) (hN : 16 ≤ N) (f1 : rw < 241) (f3 : r0 = 4 ∨ (241 ≤ r0 ∧ r0 < 473)) (hg : 241 ≤ r0 → r0 < 273 → ∀ i, ∃ y : Int8, g i = y.toInt32) : FK Z (gwM m ty N g fw (Y.1 rw)) (gwY Y r0 N (zz m)) := by
  have ow := hT.ow (r := rw) (by omega)
  have hp := pot_up Y.2.2.1 (N := N) f3
  have hz := h.1
  refine ⟨Nat.le_trans hz (Nat.le_succ _), h.2.1, fun a ha => ?_, ?_, ?_, fun a c hlt hac h1 h2 j => ?_, fun a h1 h2 => ?_⟩
  · obtain ⟨q1, q2, q3, q4⟩ := h.2.2.1 a ha
    have hlt : a < zz m := by omega
    refine ⟨(gY_on Y (by omega)).trans q1, (gw_T hlt).trans q2, (gw_N hlt).trans q3, fun hO => (q4 hO).tr (gw_eqa hlt (fun e => hO ?_))⟩
    subst e
    exact h.own ow (by omega) ha
  · show nn m + N + pot Z.2.2.2.1 = nn Z.1 + pot (fun r => if r = r0 then Y.2.2.1 r0 + N else Y.2.2.1 r)
    have := h.2.2.2.1
    omega
  · show 16 * (zz m + 1) + pot Z.2.2.2.1 ≤ 16 * zz Z.1 + pot (fun r => if r = r0 then Y.2.2.1 r0 + N else Y.2.2.1 r)
    have := h.2.2.2.2.1
    omega
  · by_cases e : a = zz m
    · subst e
      rw [gY_oe] at hac
      have hac : Y.2.1 + r0 = Y.2.1 + c := hac
      rw [gw_aIn]
      exact hg (by omega) (by omega) j
    · rw [gY_on Y e] at hac
      have hac : Y.2.2.2 a = Y.2.1 + c := hac
      have hlt2 : a < zz m := by
        have : a < zz m + 1 := hlt
        omega
      have old := h.2.2.2.2.2.1 a c hlt2 hac h1 h2 j
      obtain ⟨y, hy⟩ := old
      refine ⟨y, ?_⟩
      rw [← hy]
      show va_up (zr (aI m) (zz m) 0) (zz m) g a j = _
      rw [vu_ne _ _ e]
      unfold zr
      rw [if_neg e]
  · by_cases e : a = zz m
    · subst e
      rw [gY_oe, h.2.1]
      exact ⟨Nat.le_add_right _ _, by omega⟩
    · rw [gY_on Y e]
      have h2 : a < zz m + 1 := h2
      exact h.2.2.2.2.2.2 a h1 (by omega)
section Grow2
variable {Z : Mem × YY} {m : Mem} {Y : YY} {N : Nat} {g : Nat → Int32}
theorem KU.growC (h : KU Z m Y) (hN : 1 ≤ N) (hle : gN m (Y.1 4) ≤ N) (hl : LC N (Y.2.2.1 4 + N)) : KU Z (gwM m 12 N g 61 (Y.1 3)) (gwY Y 4 N (zz m)) :=
  ⟨gw_KT (g := aI m (Y.1 4)) (ty := 12) h.1 (Or.inl ⟨rfl, rfl, rfl, rfl, hle, hl, fun _ _ => rfl⟩), trivial, gw_FKz h.1 h.2.2 (by unfold LC at hl; omega) (by omega) (by omega) (fun a b => by omega)⟩
theorem KU.growB (h : KU Z m Y) (hN : 1 ≤ N) {p : Nat} (hp : p < 32) (hle : gN m (Y.1 (241 + p)) ≤ N) (hl : LB N (Y.2.2.1 (241 + p) + N)) (hg : ∀ i, ∃ y : Int8, g i = y.toInt32) : KU Z (gwM m 11 N g 41 (Y.1 (209 + p))) (gwY Y (241 + p) N (zz m)) :=
  ⟨gw_KT (g := aI m (Y.1 (241 + p))) (ty := 11) h.1 (Or.inr (Or.inl ⟨p, hp, rfl, rfl, rfl, rfl, hle, hl, fun _ _ => rfl, h.2.2.2.2.2.2.2.1 _ (241 + p) (h.1.1 (241 + p) (by omega)).2.2 (h.1.ow (by omega)) (by omega) (by omega)⟩)), trivial, gw_FKz h.1 h.2.2 (by unfold LB at hl; omega) (by omega) (by omega) (fun _ _ => hg)⟩
theorem KU.growS (h : KU Z m Y) {t : Nat} (ht : t < 200) (hp : gP m 97 (Y.1 (9 + t)) = none) : KU Z (gwM m 14 127 g 97 (Y.1 (9 + t))) (gwY Y (273 + t) 127 (zz m)) :=
  ⟨gw_KT (g := g) (ty := 14) h.1 (Or.inr (Or.inr ⟨t, ht, rfl, rfl, rfl, rfl, rfl, hp⟩)), trivial, gw_FKz h.1 h.2.2 (by omega) (by omega) (by omega) (fun _ _ => by omega)⟩
theorem ku_aw (h : KU Z m Y) {a c i : Nat} {x : Int32} (ha : Y.2.2.2 a = Y.2.1 + c) (hc : c < 1000 ∧ (c < 241 ∨ 273 ≤ c)) : KU Z (sAI m a i x) Y := ⟨h.1.sAI, trivial, h.2.2.sAI ha hc⟩
theorem KU.rw' (h : KU Z m Y) {a c : Nat} (ha : Y.2.2.2 a = Y.2.1 + c) (hc : c < 1000 ∧ (c < 241 ∨ 273 ≤ c)) : KU Z (sRI m a g) Y := ⟨h.1.sRI, trivial, h.2.2.sRI ha hc⟩
theorem KU.fla (h : KU Z m Y) {a c : Nat} {x : Int32} (ha : Y.2.2.2 a = Y.2.1 + c) (hc : c < 1000 ∧ (c < 241 ∨ 273 ≤ c)) : ∀ i, KU Z (flM m a x i) Y := by
  intro i
  induction i with
  | zero => exact h
  | succ i ih => exact ku_aw ih ha hc
/-- a row of bytes is written -/
theorem KU.byt (h : KU Z m Y) {p : Nat} (hp : p < 32) (hg : ∀ i, ∃ y : Int8, g i = y.toInt32) : KU Z (sRI m (Y.1 (241 + p)) g) Y := by
  have f := h.2.2
  refine ⟨h.1.sRI, trivial, f.1, f.2.1, fun b hb => fk_wr1 (m' := sRI m (Y.1 (241 + p)) g) f (h.1.ow (r := 241 + p) (by omega)) (by omega) rfl rfl (fun _ e => eqa_sRI e) b hb, f.2.2.2.1, f.2.2.2.2.1, fun a c hlt ha h1 h2 j => ?_, f.2.2.2.2.2.2⟩
  have old := f.2.2.2.2.2.1 a c hlt ha h1 h2 j
  show ∃ y : Int8, va_up (aI m) (Y.1 (241 + p)) g a j = y.toInt32
  by_cases e : a = Y.1 (241 + p)
  · rw [e, vu_eq]
    exact hg j
  · rw [vu_ne _ _ e]
    exact old
theorem FS.gw {S : Nat → Prop} {r0 rw fw ty : Nat} (h0 : S (Y.2.1 + r0)) (hw : S (Y.2.2.2 (Y.1 rw))) : FS S m Y.2.2.2 (gwM m ty N g fw (Y.1 rw)) (gwY Y r0 N (zz m)).2.2.2 := by
  refine ⟨Nat.le_succ _, fun a ha => ⟨gY_on Y (by omega), gw_T ha, gw_N ha, fun q => gw_eqa ha (fun e => q (by rw [e]; exact hw))⟩, fun a h1 h2 => ?_⟩
  have h2 : a < zz m + 1 := h2
  have e : a = zz m := by omega
  subst e
  rw [gY_oe]
  exact h0
end Grow2
def Sq (b i q : Nat) : Prop := q = b + (9 + i) ∨ q = b + (273 + i)
def TOK (m : Mem) (Y : YY) (kf : KF) (vf : VF) (t : Nat) : Prop := (∀ w, w < 15 → gI m (tf w) (Y.1 (9 + t)) = kg kf t w) ∧ gL m 84 (Y.1 (9 + t)) = vf t ∧ (0 ≤ kg kf t 14 → gP m 97 (Y.1 (9 + t)) = some (Y.1 (273 + t)) ∧ (kg kf t 14).toNatClampNeg ≤ 127 ∧ ∀ i, i < (kg kf t 14).toNatClampNeg → aI m (Y.1 (273 + t)) i = kf (4400 + 128 * t + i))
/-- all roles but the one that may have grown -/
def Sx (r0 : Nat) (Y Y1 : YY) : Prop := ∀ r, r ≠ r0 → Y1.1 r = Y.1 r
theorem KS.src {m M : Mem} {Y Y' Yc : YY} {ρ n : Nat} {kf : KF} {vf : VF} (hS : KS m Y' ρ kf vf n) (hO : Y'.2.2.2 = Y.2.2.2) (hd : ∀ c, Ow Y'.2.1 c → ¬ Ow Y.2.1 c) (h : FK (m, Y) M Yc) : KQ (M, rY Y' Yc.2.2.2) M (rY Y' Yc.2.2.2) ρ kf vf n := (hS.un (by rw [hO]; exact h.fs) hd).q

section Class23
variable {G : GG} {m : Mem} {a s c j : Nat}

set_option maxRecDepth 100000 in
set_option maxHeartbeats 4000000 in
theorem x_hasShort (ht : gT m a = 5) (hp : gP m 97 a = some s) (hs : gT m s = 14) (hn : gN m s = 127) (hc : gI m 96 a = nI c) (hc2 : c ≤ 127) (hj : j < c) : Ev G 0 uX4_hasShort [.ref a, .int (nI j)] m (some (.int (nI 1))) m := by
  refine Ev.of (by decide +kernel) (Nat.le_of_ble_eq_true rfl) ?_
  refine e_lvs (lv' := [(0, .ref a), (1, .int (nI j))]) rfl ?_
  refine e_aload_n 0 dX4_hasShort_0 rfl ?_
  refine e_getP (some s) dX4_hasShort_1 fl_X4_61 rfl ht hp ?_
  refine e_ifnull dX4_hasShort_4 ?_
  refine e_iload_n 1 dX4_hasShort_7 rfl ?_
  refine e_if_lt 32 dX4_hasShort_8 (by decide) (fun h => absurd h (nI_pos (by omega))) (fun _ => ?_)
  refine e_iload_n 1 dX4_hasShort_11 rfl ?_
  refine e_aload_n 0 dX4_hasShort_12 rfl ?_
  refine e_getIv (nI c) dX4_hasShort_13 fl_X4_58 rfl ht hc ?_
  refine e_icmp_geN 32 dX4_hasShort_16 (by decide) (by omega) (by omega) (fun h => absurd h (by omega)) (fun _ => ?_)
  refine e_iload_n 1 dX4_hasShort_19 rfl ?_
  refine e_aload_n 0 dX4_hasShort_20 rfl ?_
  refine e_getP (some s) dX4_hasShort_21 fl_X4_61 rfl ht hp ?_
  refine e_alen (n := nI 127) dX4_hasShort_24 hs (by omega) (by rw [hn]; rfl) ?_
  refine e_icmp_geN 32 dX4_hasShort_25 (by decide) (by omega) (by omega) (fun h => absurd h (by omega)) (fun _ => ?_)
  refine e_ic (nI 1) dX4_hasShort_28 (by decide) ?_
  refine e_goto 33 dX4_hasShort_29 (by decide) ?_
  exact e_retI dX4_hasShort_33 rfl rfl rfl

set_option maxRecDepth 100000 in
set_option maxHeartbeats 4000000 in
theorem x_setShort (ht : gT m a = 5) (hp : gP m 97 a = some s) (hs : gT m s = 14) (hn : gN m s = 127) (hc : gI m 96 a = nI c) (hc2 : c ≤ 127) (hj : j < c) (y : Int32) : Ev G 1 uX4_setShort [.ref a, .int (nI j), .int y] m none (sAI m s j y.toInt16.toInt32) := by
  refine Ev.of (by decide +kernel) (Nat.le_of_ble_eq_true rfl) ?_
  refine e_lvs (lv' := [(0, .ref a), (1, .int (nI j)), (2, .int y)]) rfl ?_
  refine e_aload_n 0 dX4_setShort_0 rfl ?_
  refine e_iload_n 1 dX4_setShort_1 rfl ?_
  refine e_callV (ci := 4) (st := []) (st1 := [.int (nI 1)]) (As := [.int (nI j)]) (x_hasShort ht hp hs hn hc hc2 hj) dX4_setShort_2 (by decide) cm_X4_hasShort lk_X4_113 im_X4_hasShort rfl sel_X4_hasShort ht rfl rfl (Nat.le_of_ble_eq_true rfl) rfl ?_
  refine e_if_eq 16 dX4_setShort_5 (by decide) (fun h => absurd h (by decide)) (fun _ => ?_)
  refine e_aload_n 0 dX4_setShort_8 rfl ?_
  refine e_getP (some s) dX4_setShort_9 fl_X4_61 rfl ht hp ?_
  refine e_iload_n 1 dX4_setShort_12 rfl ?_
  refine e_iload_n 2 dX4_setShort_13 rfl ?_
  refine e_i2s dX4_setShort_14 ?_
  refine e_sastN (y := y.toInt16.toInt32) _ dX4_setShort_15 hs (by rw [hn]; omega) (by rw [hn]; decide) (nar_s _) rfl ?_
  exact e_retV dX4_setShort_16 rfl rfl

end Class23

section Class23b
variable {G : GG} {Z : Mem × YY} {m : Mem} {Y : YY}

theorem fl_eqa {m : Mem} {a b : Nat} {x : Int32} (h : b ≠ a) : ∀ n, Eqa m (flM m a x n) b := by
  intro n
  induction n with
  | zero => exact Eqa.rf m b
  | succ n ih => exact ih.tr (eqa_sAI h)

set_option maxRecDepth 100000 in
set_option maxHeartbeats 4000000 in
theorem x_makeShorts (hu : KU Z m Y) {t b : Nat} (ht : t < 200) (hb : b ≤ 127) : EvC G 1 uX4_makeShorts [.ref (Y.1 (9 + t)), .int (nI b)] m (fun r mm => r = none ∧ ∃ Y2, Sx (273 + t) Y Y2 ∧ KU Z mm Y2 ∧ FS (Sq Y.2.1 t) m Y.2.2.2 mm Y2.2.2.2 ∧ gP mm 97 (Y.1 (9 + t)) = some (Y2.1 (273 + t)) ∧ gI mm 96 (Y.1 (9 + t)) = nI b ∧ (∀ w, w < 14 → gI mm (tf w) (Y.1 (9 + t)) = gI m (tf w) (Y.1 (9 + t))) ∧ gL mm 84 (Y.1 (9 + t)) = gL m 84 (Y.1 (9 + t))) := by
  refine EvC.of (by decide +kernel) (Nat.le_of_ble_eq_true rfl) ?_
  have C : ∀ (m1 : Mem) (Y1 : YY), Sx (273 + t) Y Y1 ∧ KU Z m1 Y1 ∧ FS (Sq Y.2.1 t) m Y.2.2.2 m1 Y1.2.2.2 ∧ gP m1 97 (Y.1 (9 + t)) = some (Y1.1 (273 + t)) ∧ (∀ f, gI m1 f (Y.1 (9 + t)) = gI m f (Y.1 (9 + t))) ∧ gL m1 84 (Y.1 (9 + t)) = gL m 84 (Y.1 (9 + t)) → EvR G 1 uX4_makeShorts (zz m) (nn m) (fun r mm => r = none ∧ ∃ Y2, Sx (273 + t) Y Y2 ∧ KU Z mm Y2 ∧ FS (Sq Y.2.1 t) m Y.2.2.2 mm Y2.2.2.2 ∧ gP mm 97 (Y.1 (9 + t)) = some (Y2.1 (273 + t)) ∧ gI mm 96 (Y.1 (9 + t)) = nI b ∧ (∀ w, w < 14 → gI mm (tf w) (Y.1 (9 + t)) = gI m (tf w) (Y.1 (9 + t))) ∧ gL mm 84 (Y.1 (9 + t)) = gL m 84 (Y.1 (9 + t))) 15 [(0, .ref (Y.1 (9 + t))), (1, .int (nI b))] [] m1 := by
    intro m1 Y1 hx1
    obtain ⟨hS, hu1, hF1, hp1, hI1, hL1⟩ := hx1
    have e9 : Y1.1 (9 + t) = Y.1 (9 + t) := hS (9 + t) (by omega)
    have hy : Y1.2.2.1 (273 + t) = 127 ∧ gT m1 (Y1.1 (273 + t)) = 14 ∧ gN m1 (Y1.1 (273 + t)) = 127 ∧ Y1.2.2.2 (Y1.1 (273 + t)) = Y1.2.1 + (273 + t) ∧ Y1.1 (273 + t) < zz m1 := by
      rcases (hu1.1.2.2.2.2.1 t ht).2.2 with y | y
      · rw [e9, hp1] at y
        cases y.1
      · exact y.2
    obtain ⟨-, hT2, hN2, ho2, hz2⟩ := hy
    have hb1 : Y1.2.1 = Y.2.1 := hu1.2.2.2.1.trans hu.2.2.2.1.symm
    have ho3 : Y1.2.2.2 (Y1.1 (273 + t)) = Y.2.1 + (273 + t) := by rw [ho2, hb1]
    have ho4 : Y1.2.2.2 (Y.1 (9 + t)) = Y.2.1 + (9 + t) := by
      rw [← e9, hu1.1.ow (by omega), hb1]
    refine r_go (fun kk => e_aload_n 0 dX4_makeShorts_15 rfl kk) ?_
    refine r_go (fun kk => e_getP (some (Y1.1 (273 + t))) dX4_makeShorts_16 fl_X4_61 rfl (by rw [← hS (9 + t) (by omega)]; exact hu1.Tt ht) (hp1) kk) ?_
    refine r_go (fun kk => e_ic (nI 0) dX4_makeShorts_19 (by decide) kk) ?_
    refine r_go (fun kk => e_callS (st := []) (st1 := []) (As := [.ref (Y1.1 (273 + t)), .int (nI 0)]) (a_fillS (G := G) hT2 (by rw [hN2]; decide) rfl) dX4_makeShorts_20 (by decide) cm_J7_fill_fb410 lk_X4_107 sm_J7_fill_fb410 rfl rfl (Nat.le_of_ble_eq_true rfl) rfl kk) ?_
    rw [hN2]
    refine r_gen (fun mm => Sx (273 + t) Y Y1 ∧ KU Z mm Y1 ∧ FS (Sq Y.2.1 t) m Y.2.2.2 mm Y1.2.2.2 ∧ gP mm 97 (Y.1 (9 + t)) = some (Y1.1 (273 + t)) ∧ (∀ f, gI mm f (Y.1 (9 + t)) = gI m f (Y.1 (9 + t))) ∧ gL mm 84 (Y.1 (9 + t)) = gL m 84 (Y.1 (9 + t))) ⟨hS, hu1.fla ho2 (by omega) 127, hF1.tr (FS.wr (a := Y1.1 (273 + t)) (Or.inr ho3) (fl_T _ _ _) (fl_N _ _ _) (fl_z _ _ _).1 (fun b hb => fl_eqa hb 127)), by rw [fl_P]; exact hp1, fun f => by rw [fl_I]; exact hI1 f, by rw [fl_L]; exact hL1⟩ (fun m2 hx2 => ?_)
    obtain ⟨-, hu2, hF2, hp2, hI2, hL2⟩ := hx2
    refine r_go (fun kk => e_aload_n 0 dX4_makeShorts_23 rfl kk) ?_
    refine r_go (fun kk => e_iload_n 1 dX4_makeShorts_24 rfl kk) ?_
    refine r_go (fun kk => e_putI (ci := 4) (k := 16) dX4_makeShorts_25 fl_X4_58 rfl (fun q h => by cases h; rfl) ⟨rfl, rfl⟩ (by rw [← hS (9 + t) (by omega)]; exact hu2.Tt ht) kk) ?_
    refine r_ret ⟨rfl, Y1, hS, ?_, hF2.tr (FS.wr (a := Y.1 (9 + t)) (Or.inl ho4) rfl rfl rfl (fun b hb => eqa_sI hb)), hp2, u2_eq (gI m2) 96 (Y.1 (9 + t)) (nI b), fun w hw => ?_, hL2⟩ (e_retV dX4_makeShorts_28 rfl rfl)
    · have := hu2.sI (f := 96) (r := 9 + t) (x := nI b) (by omega) (by omega)
      rw [hS (9 + t) (by omega)] at this
      exact this
    · exact (gI_nf (by have := tf_n (w := w) (by omega); unfold tf; split <;> omega)).trans (hI2 _)
  refine r_go (fun kk => e_lvs (lv' := [(0, .ref (Y.1 (9 + t))), (1, .int (nI b))]) rfl kk) ?_
  rcases (hu.1.2.2.2.2.1 t ht).2.2 with y | y
  · skip
    refine r_go (fun kk => e_aload_n 0 dX4_makeShorts_0 rfl kk) ?_
    refine r_go (fun kk => e_getP (none) dX4_makeShorts_1 fl_X4_61 rfl (hu.Tt ht) (y.1) kk) ?_
    refine r_go (fun kk => e_ifnonnullN dX4_makeShorts_4 kk) ?_
    refine r_go (fun kk => e_aload_n 0 dX4_makeShorts_7 rfl kk) ?_
    refine r_go (fun kk => e_bipush (v := nI 127) dX4_makeShorts_8 (by decide) kk) ?_
    refine r_go (fun kk => e_newa (t := 14) (N := 127) dX4_makeShorts_10 ac_short ⟨by omega, rfl⟩ (by decide) rfl (by omega) kk) ?_
    refine r_go (fun kk => e_putP (ci := 4) (k := 17) (some (zz m)) dX4_makeShorts_12 fl_X4_61 rfl (fun q h => by cases h; rfl) ⟨rfl, rfl⟩ rfl (show gT (nw m 14 127) (Y.1 (9 + t)) = 5 from (vu_ne _ _ (Nat.ne_of_lt (hu.1.1 (9 + t) (by omega)).2.2)).trans (hu.Tt ht)) kk) ?_
    have hlt := (hu.1.1 (9 + t) (by omega)).2.2
    have hg := hu.growS (g := aI (nw m 14 127) (zz m)) ht y.1
    have hf := FS.gw (S := Sq Y.2.1 t) (m := m) (Y := Y) (r0 := 273 + t) (rw := 9 + t) (fw := 97) (ty := 14) (N := 127) (g := aI (nw m 14 127) (zz m)) (Or.inr rfl) (Or.inl (hu.1.ow (by omega)))
    refine C _ (gwY Y (273 + t) 127 (zz m)) ?_
    rw [gwM, sRI_self] at hg hf
    refine ⟨fun r hr => gY_n Y hr, hg, hf, ?_, fun f => ?_, ?_⟩
    · rw [gY_e]; exact u2_eq (gP (nw m 14 127)) 97 (Y.1 (9 + t)) (some (zz m))
    · exact (nw_eqa m 14 127 hlt).1.1 f
    · exact (nw_eqa m 14 127 hlt).1.2.1 84
  · skip
    refine r_go (fun kk => e_aload_n 0 dX4_makeShorts_0 rfl kk) ?_
    refine r_go (fun kk => e_getP (some (Y.1 (273 + t))) dX4_makeShorts_1 fl_X4_61 rfl (hu.Tt ht) (y.1) kk) ?_
    refine r_go (fun kk => e_ifnonnull 15 dX4_makeShorts_4 (by decide) kk) ?_
    exact C m Y ⟨fun _ _ => rfl, hu, FS.rf _ m _, y.1, fun _ => rfl, rfl⟩

end Class23b
