/-! the class: a new kernel -/
theorem s5_eqa {m : Mem} {t n f M q : Nat} (h : q < zz m) (hq : q ≠ M) : Eqa m (s5 m t n f M) q := (nw_eqa m t n h).1.tr (eqa_sP hq)
theorem sAP_f (m : Mem) (a i : Nat) (x : Option Nat) : zz (sAP m a i x) = zz m ∧ nn (sAP m a i x) = nn m ∧ gT (sAP m a i x) = gT m ∧ gN (sAP m a i x) = gN m ∧ gI (sAP m a i x) = gI m ∧ gL (sAP m a i x) = gL m ∧ gP (sAP m a i x) = gP m ∧ aI (sAP m a i x) = aI m ∧ aL (sAP m a i x) = aL m ∧ aP (sAP m a i x) a i = x ∧ (∀ q j, q ≠ a ∨ j ≠ i → aP (sAP m a i x) q j = aP m q j) ∧ ∀ q, q ≠ a → Eqa m (sAP m a i x) q :=
  ⟨rfl, rfl, rfl, rfl, rfl, rfl, rfl, rfl, rfl, u2_eq (aP m) a i x, fun q j h => h.elim (fun e => u2_nf (aP m) x e) (fun e => u2_na (aP m) x e), fun q h => ⟨fun _ => rfl, fun _ => rfl, fun _ => rfl, rfl, rfl, by funext j; exact u2_nf (aP m) x h⟩⟩
theorem sP_f (m : Mem) (f a : Nat) (x : Option Nat) : zz (sP m f a x) = zz m ∧ nn (sP m f a x) = nn m ∧ gT (sP m f a x) = gT m ∧ gN (sP m f a x) = gN m ∧ gI (sP m f a x) = gI m ∧ gL (sP m f a x) = gL m ∧ aI (sP m f a x) = aI m ∧ aL (sP m f a x) = aL m ∧ aP (sP m f a x) = aP m ∧ gP (sP m f a x) f a = x ∧ (∀ g q, g ≠ f ∨ q ≠ a → gP (sP m f a x) g q = gP m g q) ∧ ∀ q, q ≠ a → Eqa m (sP m f a x) q :=
  ⟨rfl, rfl, rfl, rfl, rfl, rfl, rfl, rfl, rfl, u2_eq (gP m) f a x, fun g q h => h.elim (fun e => u2_nf (gP m) x e) (fun e => u2_na (gP m) x e), fun q h => eqa_sP h⟩
/-- new Rows X, laid into field 2 of a -/
theorem rb_f {m X : Mem} {a z : Nat} (ha : a < zz m) (hz : z = zz m) (hX : X = riM (nw m 4 2) (zz m)) : zz (sP X 2 a (some (zz m))) = z + 2 ∧ nn (sP X 2 a (some (zz m))) = nn m + 322 ∧ gT (sP X 2 a (some (zz m))) z = 4 ∧ gT (sP X 2 a (some (zz m))) (z + 1) = 12 ∧ gN (sP X 2 a (some (zz m))) (z + 1) = 320 ∧ gP (sP X 2 a (some (zz m))) 61 z = some (z + 1) ∧ gI (sP X 2 a (some (zz m))) 60 z = nI 0 ∧ gP (sP X 2 a (some (zz m))) 2 a = some z ∧ (∀ q, q < z → gT (sP X 2 a (some (zz m))) q = gT m q ∧ gN (sP X 2 a (some (zz m))) q = gN m q ∧ (∀ f, gI (sP X 2 a (some (zz m))) f q = gI m f q) ∧ (∀ f, f ≠ 2 → gP (sP X 2 a (some (zz m))) f q = gP m f q) ∧ aI (sP X 2 a (some (zz m))) q = aI m q ∧ (q ≠ a → Eqa m (sP X 2 a (some (zz m))) q)) ∧ gT X a = gT m a := by
  subst hz
  obtain ⟨w1, w2, w3, w4, w5⟩ := nw_0 m 4 2
  have hlt : zz m < zz (nw m 4 2) := by rw [w4]; omega
  have r := ri_f (nw m 4 2) (a := zz m) hlt
  have v := fun q (hq : q < zz m) => nw_eqa m 4 2 hq
  rw [← hX, w4, w5] at r
  clear hX
  generalize nw m 4 2 = N at *
  obtain ⟨r1, r2, r3, r4, r5, r6, r7, r8⟩ := r
  obtain ⟨x1, x2, x3⟩ := r8 (zz m) (by omega)
  obtain ⟨s1, s2, s3, s4, s5, s6, s7, s8, s9, s10, s11, s12⟩ := sP_f X 2 a (some (zz m))
  rw [s1, s2, s3, s4, s5, s7, s10]
  refine ⟨r1, by omega, x1.trans w1, r3, r4, (s11 61 _ (Or.inl (by omega))).trans r7, r6, rfl, fun q hq => ?_, (r8 a (by omega)).1.trans (v a ha).2.1⟩
  obtain ⟨y1, y2, y3⟩ := r8 q (by omega)
  obtain ⟨v1, v2, v3⟩ := v q hq
  have e : Eqa m X q := v1.tr (y3 (by omega))
  exact ⟨y1.trans v2, y2.trans v3, fun f => e.1 f, fun f hf => (s11 f q (Or.inl hf)).trans (e.2.2.1 f), e.2.2.2.1, fun h => e.tr (s12 q h)⟩
/-- a new task X, laid into place i of the row r -/
theorem ta_f {m X : Mem} {r i z : Nat} (hz : z = zz m) (hX : X = tiM (nw m 5 19) (zz m) (nI i)) : zz (sAP X r i (some (zz m))) = z + 1 ∧ nn (sAP X r i (some (zz m))) = nn m + 19 ∧ gT (sAP X r i (some (zz m))) z = 5 ∧ gI (sAP X r i (some (zz m))) 80 z = nI i ∧ gP (sAP X r i (some (zz m))) 97 z = none ∧ aP (sAP X r i (some (zz m))) r i = some z ∧ (∀ q, q < z → gT (sAP X r i (some (zz m))) q = gT m q ∧ gN (sAP X r i (some (zz m))) q = gN m q ∧ (∀ f, gI (sAP X r i (some (zz m))) f q = gI m f q) ∧ (∀ f, gP (sAP X r i (some (zz m))) f q = gP m f q) ∧ aI (sAP X r i (some (zz m))) q = aI m q ∧ (∀ j, q ≠ r ∨ j ≠ i → aP (sAP X r i (some (zz m))) q j = aP m q j) ∧ (q ≠ r → Eqa m (sAP X r i (some (zz m))) q)) ∧ gT X z = 5 ∧ ∀ q, q < z → gT X q = gT m q ∧ gN X q = gN m q := by
  subst hz
  obtain ⟨w1, w2, w3, w4, w5⟩ := nw_0 m 5 19
  have t := ti_f (nw m 5 19) (zz m) (nI i)
  have te := fun q (hq : q ≠ zz m) => ti_eqa (nw m 5 19) (zz m) q (nI i) hq
  have v := fun q (hq : q < zz m) => nw_eqa m 5 19 hq
  rw [← hX] at t te
  clear hX
  generalize nw m 5 19 = N at *
  obtain ⟨t1, t2, t3, t4, t5, t6⟩ := t
  obtain ⟨s1, s2, s3, s4, s5, s6, s7, s8, s9, s10, s11, s12⟩ := sAP_f X r i (some (zz m))
  rw [s1, s2, s3, s4, s5, s7, s8, s10, t1, t2, t3, t4]
  refine ⟨w4, w5, w1, t5, t6, rfl, fun q hq => ?_, w1, fun q hq => (v q hq).2⟩
  obtain ⟨v1, v2, v3⟩ := v q hq
  have e : Eqa m X q := v1.tr (te q (by omega))
  exact ⟨v2, v3, fun f => e.1 f, fun f => e.2.2.1 f, e.2.2.2.1, fun j h => (s11 q j h).trans (congrFun e.2.2.2.2.2 j), fun h => e.tr (s12 q h)⟩
/-- a new program X, laid into place i of the row r -/
theorem po_f {m X : Mem} {r i z : Nat} (hz : z = zz m) (hX : X = piM (nw m 3 2) (zz m)) : zz (sAP X r i (some (zz m))) = z + 2 ∧ nn (sAP X r i (some (zz m))) = nn m + 34 ∧ gT (sAP X r i (some (zz m))) z = 3 ∧ gT (sAP X r i (some (zz m))) (z + 1) = 11 ∧ gN (sAP X r i (some (zz m))) (z + 1) = 32 ∧ gI (sAP X r i (some (zz m))) 40 z = -1 ∧ gP (sAP X r i (some (zz m))) 41 z = some (z + 1) ∧ aP (sAP X r i (some (zz m))) r i = some z ∧ (∀ j, aI (sAP X r i (some (zz m))) (z + 1) j = 0) ∧ (∀ q, q < z → gT (sAP X r i (some (zz m))) q = gT m q ∧ gN (sAP X r i (some (zz m))) q = gN m q ∧ (∀ f, gI (sAP X r i (some (zz m))) f q = gI m f q) ∧ (∀ f, gP (sAP X r i (some (zz m))) f q = gP m f q) ∧ aI (sAP X r i (some (zz m))) q = aI m q ∧ (∀ j, q ≠ r ∨ j ≠ i → aP (sAP X r i (some (zz m))) q j = aP m q j) ∧ (q ≠ r → Eqa m (sAP X r i (some (zz m))) q)) ∧ gT X z = 3 ∧ ∀ q, q < z → gT X q = gT m q ∧ gN X q = gN m q := by
  subst hz
  obtain ⟨w1, w2, w3, w4, w5⟩ := nw_0 m 3 2
  have hlt : zz m < zz (nw m 3 2) := by rw [w4]; omega
  have r' := pi_f (nw m 3 2) (a := zz m) hlt
  have v := fun q (hq : q < zz m) => nw_eqa m 3 2 hq
  rw [← hX, w4, w5] at r'
  clear hX
  generalize nw m 3 2 = N at *
  obtain ⟨r1, r2, r3, r4, r5, r6, r7, r8⟩ := r'
  obtain ⟨x1, x2, x3⟩ := r8 (zz m) (by omega)
  obtain ⟨s1, s2, s3, s4, s5, s6, s7, s8, s9, s10, s11, s12⟩ := sAP_f X r i (some (zz m))
  rw [s1, s2, s3, s4, s5, s7, s8, s10]
  refine ⟨r1, by omega, x1.trans w1, r3, r4, r6, r7, rfl, r5, fun q hq => ?_, x1.trans w1, fun q hq => ⟨(r8 q (by omega)).1.trans (v q hq).2.1, (r8 q (by omega)).2.1.trans (v q hq).2.2⟩⟩
  obtain ⟨y1, y2, y3⟩ := r8 q (by omega)
  obtain ⟨v1, v2, v3⟩ := v q hq
  have e : Eqa m X q := v1.tr (y3 (by omega))
  exact ⟨y1.trans v2, y2.trans v3, fun f => e.1 f, fun f => e.2.2.1 f, e.2.2.2.1, fun j h => (s11 q j h).trans (congrFun e.2.2.2.2.2 j), fun h => e.tr (s12 q h)⟩

def kiA (a z r : Nat) : Nat := if r = 0 then a else if r < 209 then z + (r - 1) else if r < 241 then z + 208 + 2 * (r - 209) else if r < 273 then z + 209 + 2 * (r - 241) else 0
def kiO (o : Nat → Nat) (z b q : Nat) : Nat := if q < z then o q else if q < z + 208 then b + (q - z + 1) else if (q - z) % 2 = 0 then b + (209 + (q - z - 208) / 2) else b + (241 + (q - z - 208) / 2)
def kiG (r : Nat) : Nat := if r = 4 then 320 else if 241 ≤ r ∧ r < 273 then 32 else 0
def kiY (o : Nat → Nat) (a z b : Nat) : YY := (kiA a z, b, kiG, kiO o z b)
theorem kiG_pot : pot kiG = 1344 := by decide +kernel

theorem ki_end {m M : Mem} {o : Nat → Nat} {a b z : Nat} (hzm : z = zz m) (ha : a < z) (ho : o a = b) (hfr : ∀ q, q < z → q ≠ a → ¬ Ow b (o q)) (hTm : gT m a = 1) (hNm : gN M a = gN m a) (hx : (zz M = z + 208 + 2 * 32 ∧ nn M = nn m + 4670 + 34 * 32 ∧ (∀ q, q < z → q ≠ a → Eqa m M q ∧ gT M q = gT m q ∧ gN M q = gN m q) ∧ gT M (a) = 1 ∧ gN M (a) = gN m a ∧ gT M (z + 0) = 17 ∧ gN M (z + 0) = 200 ∧ gP M 0 (a) = some (z + 0) ∧ gT M (z + 1) = 16 ∧ gN M (z + 1) = 32 ∧ gP M 1 (a) = some (z + 1) ∧ gT M (z + 2) = 4 ∧ gT M (z + 3) = 12 ∧ gN M (z + 3) = 320 ∧ gP M 61 (z + 2) = some (z + 3) ∧ gI M 60 (z + 2) = nI 0 ∧ gP M 2 (a) = some (z + 2) ∧ gT M (z + 4) = 12 ∧ gN M (z + 4) = 100 ∧ gP M 3 (a) = some (z + 4) ∧ gT M (z + 5) = 12 ∧ gN M (z + 5) = 4 ∧ gP M 4 (a) = some (z + 5) ∧ gT M (z + 6) = 12 ∧ gN M (z + 6) = 200 ∧ gP M 5 (a) = some (z + 6) ∧ gT M (z + 7) = 12 ∧ gN M (z + 7) = 12 ∧ gP M 6 (a) = some (z + 7) ∧ aI M (z + 7) = (fun _ => 0) ∧ gI M 7 (a) = nI 0 ∧ gI M 8 (a) = nI 0 ∧ gI M 9 (a) = nI 1 ∧ gI M 10 (a) = nI 0 ∧ gI M 11 (a) = nI 0 ∧ (∀ t, t < 200 → gT M (z + 8 + t) = 5 ∧ gI M 80 (z + 8 + t) = nI t ∧ gP M 97 (z + 8 + t) = none ∧ aP M (z + 0) t = some (z + 8 + t)) ∧ (∀ p, p < 32 → gT M (z + 208 + 2 * p) = 3 ∧ gT M (z + 209 + 2 * p) = 11 ∧ gN M (z + 209 + 2 * p) = 32 ∧ gI M 40 (z + 208 + 2 * p) = -1 ∧ gP M 41 (z + 208 + 2 * p) = some (z + 209 + 2 * p) ∧ aP M (z + 1) p = some (z + 208 + 2 * p) ∧ ∀ j, aI M (z + 209 + 2 * p) j = 0)) ∧ (∀ j, j < 100 → aI M (z + 4) j = -2) ∧ (∀ j, j < 4 → aI M (z + 5) j = -1)) : KT M (kiY o a z b) ∧ BYT M (kiY o a z b) ∧ (∀ (ρ : Nat) (kf : KF) (vf : VF), KI kf → KV M (kiY o a z b) ρ kf vf 0) ∧ FS (Ow b) m o M (kiO o z b) := by
  obtain ⟨⟨hz, hn, hold, f0, f1, f2, f3, f4, f5, f6, f7, f8, f9, f10, f11, f12, f13, f14, f15, f16, f17, f18, f19, f20, f21, f22, f23, f24, f25, f26, f27, f28, f29, f30, f31, hTK, hPK⟩, ff4, ff5⟩ := hx
  have A0 : kiA a z 0 = a := rfl
  have A1 : kiA a z 1 = z + 0 := rfl
  have A2 : kiA a z 2 = z + 1 := rfl
  have A3 : kiA a z 3 = z + 2 := rfl
  have A4 : kiA a z 4 = z + 3 := rfl
  have A5 : kiA a z 5 = z + 4 := rfl
  have A6 : kiA a z 6 = z + 5 := rfl
  have A7 : kiA a z 7 = z + 6 := rfl
  have A8 : kiA a z 8 = z + 7 := rfl
  have At : ∀ t, t < 200 → kiA a z (9 + t) = z + 8 + t := fun t ht => by unfold kiA; rw [if_neg (by omega), if_pos (by omega)]; omega
  have Ap : ∀ p, p < 32 → kiA a z (209 + p) = z + 208 + 2 * p := fun p hp => by unfold kiA; rw [if_neg (by omega), if_neg (by omega), if_pos (by omega)]; omega
  have Ab : ∀ p, p < 32 → kiA a z (241 + p) = z + 209 + 2 * p := fun p hp => by unfold kiA; rw [if_neg (by omega), if_neg (by omega), if_neg (by omega), if_pos (by omega)]; omega
  have ow : ∀ r, r < 273 → kiO o z b (kiA a z r) = b + r ∧ kiA a z r < zz M := by
    intro r hr
    by_cases r0 : r = 0
    · subst r0
      rw [A0]
      unfold kiO
      rw [if_pos ha]
      exact ⟨ho, by omega⟩
    · by_cases r1 : r < 209
      · have e : kiA a z r = z + (r - 1) := by unfold kiA; rw [if_neg r0, if_pos r1]
        rw [e]
        unfold kiO
        rw [if_neg (by omega), if_pos (by omega)]
        omega
      · by_cases r2 : r < 241
        · have e : kiA a z r = z + 208 + 2 * (r - 209) := by unfold kiA; rw [if_neg r0, if_neg r1, if_pos r2]
          rw [e]
          unfold kiO
          rw [if_neg (by omega), if_neg (by omega), if_pos (by omega)]
          omega
        · have e : kiA a z r = z + 209 + 2 * (r - 241) := by unfold kiA; rw [if_neg r0, if_neg r1, if_neg r2, if_pos hr]
          rw [e]
          unfold kiO
          rw [if_neg (by omega), if_neg (by omega), if_neg (by omega)]
          omega
  have ty : ∀ r, r < 273 → gT M (kiA a z r) = tyR r := by
    intro r hr
    rcases (show r = 0 ∨ r = 1 ∨ r = 2 ∨ r = 3 ∨ r = 4 ∨ r = 5 ∨ r = 6 ∨ r = 7 ∨ r = 8 ∨ 9 ≤ r by omega) with rfl | rfl | rfl | rfl | rfl | rfl | rfl | rfl | rfl | h9
    · exact f0
    · exact f2
    · exact f5
    · exact f8
    · exact f9
    · exact f14
    · exact f17
    · exact f20
    · exact f23
    · by_cases r1 : r < 209
      · obtain ⟨t, rfl⟩ : ∃ t, r = 9 + t := ⟨r - 9, by omega⟩
        rw [At t (by omega), (hTK t (by omega)).1, tyR, if_neg (by omega), if_neg (by omega), if_neg (by omega), if_neg (by omega), if_neg (by omega), if_pos (by omega)]
      · by_cases r2 : r < 241
        · obtain ⟨p, rfl⟩ : ∃ p, r = 209 + p := ⟨r - 209, by omega⟩
          rw [Ap p (by omega), (hPK p (by omega)).1, tyR, if_neg (by omega), if_neg (by omega), if_neg (by omega), if_neg (by omega), if_neg (by omega), if_neg (by omega), if_pos (by omega)]
        · obtain ⟨p, rfl⟩ : ∃ p, r = 241 + p := ⟨r - 241, by omega⟩
          rw [Ab p (by omega), (hPK p (by omega)).2.1, tyR, if_neg (by omega), if_neg (by omega), if_neg (by omega), if_neg (by omega), if_neg (by omega), if_neg (by omega), if_neg (by omega)]
  refine ⟨⟨fun r hr => ⟨ty r hr, (ow r hr).1, (ow r hr).2⟩, ⟨f3, f6, f15, f18, f21, f24⟩, ⟨f4, f7, f13, f16, f19, f22, f25, f11⟩, fun p hp => ?_, fun t ht => ?_, ?_⟩, fun q c hlt hq h1 h2 j => ?_, fun ρ kf vf hK => ?_, ?_⟩
  · obtain ⟨p1, p2, p3, p4, p5, p6, p7⟩ := hPK p hp
    show aP M (z + 1) p = some (kiA a z (209 + p)) ∧ gP M 41 (kiA a z (209 + p)) = some (kiA a z (241 + p)) ∧ LB (gN M (kiA a z (241 + p))) (kiG (241 + p))
    rw [Ap p hp, Ab p hp, p3]
    refine ⟨p6, p5, ?_⟩
    unfold LB kiG
    rw [if_neg (by omega), if_pos (by omega)]
    omega
  · obtain ⟨t1, t2, t3, t4⟩ := hTK t ht
    show aP M (z + 0) t = some (kiA a z (9 + t)) ∧ gI M 80 (kiA a z (9 + t)) = nI t ∧ SHq M (kiY o a z b) t
    rw [At t ht]
    refine ⟨t4, t2, Or.inl ⟨?_, ?_⟩⟩
    · show gP M 97 (kiA a z (9 + t)) = none
      rw [At t ht]
      exact t3
    · show kiG (273 + t) = 0
      unfold kiG
      rw [if_neg (by omega), if_neg (by omega)]
  · show LC (gN M (z + 3)) (kiG 4)
    rw [f10]
    unfold LC kiG
    rw [if_pos rfl]
    omega
  · have hq2 : kiO o z b q = b + c := hq
    clear hq
    have hq := hq2
    clear hq2
    by_cases q0 : q < z
    · by_cases qa : q = a
      · subst qa
        unfold kiO at hq
        rw [if_pos q0, ho] at hq
        omega
      · exfalso
        refine hfr q q0 qa ?_
        unfold kiO at hq
        rw [if_pos q0] at hq
        rw [hq]
        exact ⟨Nat.le_add_right _ _, by omega⟩
    · unfold kiO at hq
      rw [if_neg q0] at hq
      by_cases q1 : q < z + 208
      · rw [if_pos q1] at hq
        omega
      · rw [if_neg q1] at hq
        by_cases q2 : (q - z) % 2 = 0
        · rw [if_pos q2] at hq
          omega
        · obtain ⟨p, hp, e⟩ : ∃ p, p < 32 ∧ q = z + 209 + 2 * p := ⟨(q - z - 209) / 2, by omega, by omega⟩
          rw [e, (hPK p hp).2.2.2.2.2.2 j]
          exact ⟨0, rfl⟩
  · refine hK.kv f27 f28 f29 f30 f31 f12 (fun p hp => ?_) ff4 ff5 (fun i hi => ?_)
    · show gI M 40 (kiA a z (209 + p)) = -1
      rw [Ap p hp]
      exact (hPK p hp).2.2.2.1
    · show aI M (z + 7) i = nI 0
      rw [f26]
      rfl
  · refine ⟨by omega, fun q hq => ?_, fun q h1 h2 => ?_⟩
    · have hq' : q < z := by omega
      have e1 : kiO o z b q = o q := by unfold kiO; rw [if_pos hq']
      by_cases qa : q = a
      · subst qa
        refine ⟨e1, f0.trans hTm.symm, hNm, fun h => absurd ?_ h⟩
        rw [ho]
        exact ⟨Nat.le_refl _, by omega⟩
      · exact ⟨e1, (hold q hq' qa).2.1, (hold q hq' qa).2.2, fun _ => (hold q hq' qa).1⟩
    · unfold kiO
      rw [if_neg (by omega)]
      by_cases q1 : q < z + 208
      · rw [if_pos q1]
        exact ⟨by omega, by omega⟩
      · rw [if_neg q1]
        by_cases q2 : (q - z) % 2 = 0
        · rw [if_pos q2]
          exact ⟨by omega, by omega⟩
        · rw [if_neg q2]
          exact ⟨by omega, by omega⟩

set_option maxRecDepth 100000 in
set_option maxHeartbeats 4000000 in
theorem k_kinit {G : GG} {m : Mem} {o : Nat → Nat} {a b : Nat} (hT : gT m a = 1) (ha : a < zz m) (ho : o a = b) (hfr : ∀ q, q < zz m → q ≠ a → ¬ Ow b (o q)) : EvC G 2 uX0_init [.ref a] m (fun r mm => r = none ∧ KT mm (kiY o a (zz m) b) ∧ BYT mm (kiY o a (zz m) b) ∧ (∀ (ρ : Nat) (kf : KF) (vf : VF), KI kf → KV mm (kiY o a (zz m) b) ρ kf vf 0) ∧ FS (Ow b) m o mm (kiO o (zz m) b) ∧ zz mm = zz m + 272 ∧ nn mm = nn m + 5758) := by
  refine EvC.of (by decide +kernel) (Nat.le_of_ble_eq_true rfl) ?_
  obtain ⟨z, hzm⟩ : ∃ z, z = zz m := ⟨_, rfl⟩
  rw [← hzm] at ha hfr 
  have L3 : ∀ (M : Mem), zz M = z + 208 + 2 * 32 ∧ nn M = nn m + 4670 + 34 * 32 ∧ (∀ q, q < z → q ≠ a → Eqa m M q ∧ gT M q = gT m q ∧ gN M q = gN m q) ∧ gT M (a) = 1 ∧ gN M (a) = gN m a ∧ gT M (z + 0) = 17 ∧ gN M (z + 0) = 200 ∧ gP M 0 (a) = some (z + 0) ∧ gT M (z + 1) = 16 ∧ gN M (z + 1) = 32 ∧ gP M 1 (a) = some (z + 1) ∧ gT M (z + 2) = 4 ∧ gT M (z + 3) = 12 ∧ gN M (z + 3) = 320 ∧ gP M 61 (z + 2) = some (z + 3) ∧ gI M 60 (z + 2) = nI 0 ∧ gP M 2 (a) = some (z + 2) ∧ gT M (z + 4) = 12 ∧ gN M (z + 4) = 100 ∧ gP M 3 (a) = some (z + 4) ∧ gT M (z + 5) = 12 ∧ gN M (z + 5) = 4 ∧ gP M 4 (a) = some (z + 5) ∧ gT M (z + 6) = 12 ∧ gN M (z + 6) = 200 ∧ gP M 5 (a) = some (z + 6) ∧ gT M (z + 7) = 12 ∧ gN M (z + 7) = 12 ∧ gP M 6 (a) = some (z + 7) ∧ aI M (z + 7) = (fun _ => 0) ∧ gI M 7 (a) = nI 0 ∧ gI M 8 (a) = nI 0 ∧ gI M 9 (a) = nI 1 ∧ gI M 10 (a) = nI 0 ∧ gI M 11 (a) = nI 0 ∧ (∀ t, t < 200 → gT M (z + 8 + t) = 5 ∧ gI M 80 (z + 8 + t) = nI t ∧ gP M 97 (z + 8 + t) = none ∧ aP M (z + 0) t = some (z + 8 + t)) ∧ (∀ p, p < 32 → gT M (z + 208 + 2 * p) = 3 ∧ gT M (z + 209 + 2 * p) = 11 ∧ gN M (z + 209 + 2 * p) = 32 ∧ gI M 40 (z + 208 + 2 * p) = -1 ∧ gP M 41 (z + 208 + 2 * p) = some (z + 209 + 2 * p) ∧ aP M (z + 1) p = some (z + 208 + 2 * p) ∧ ∀ j, aI M (z + 209 + 2 * p) j = 0) → EvR G 2 uX0_init (zz m) (nn m) (fun r mm => r = none ∧ KT mm (kiY o a (zz m) b) ∧ BYT mm (kiY o a (zz m) b) ∧ (∀ (ρ : Nat) (kf : KF) (vf : VF), KI kf → KV mm (kiY o a (zz m) b) ρ kf vf 0) ∧ FS (Ow b) m o mm (kiO o (zz m) b) ∧ zz mm = zz m + 272 ∧ nn mm = nn m + 5758) 147 [(0, .ref a)] [] M := by
    intro M hx
    obtain ⟨hz, hn, hold, f0, f1, f2, f3, f4, f5, f6, f7, f8, f9, f10, f11, f12, f13, f14, f15, f16, f17, f18, f19, f20, f21, f22, f23, f24, f25, f26, f27, f28, f29, f30, f31, hTK, hPK⟩ := hx
    refine r_go (fun kk => e_aload_n 0 dX0_init_147 rfl kk) ?_
    refine r_go (fun kk => e_getP (some (z + 4)) dX0_init_148 fl_X0_30 rfl f0 f16 kk) ?_
    refine r_go (fun kk => e_bipush (v := (-2)) dX0_init_151 (by decide) kk) ?_
    refine r_go (fun kk => e_callS (st := []) (st1 := []) (As := [.ref (z + 4), .int (-2)]) (a_fillI (G := G) (x := (-2)) f14 (by rw [f15]; decide)) dX0_init_153 (by decide) cm_J7_fill_53178 lk_X0_63 sm_J7_fill_53178 rfl rfl (Nat.le_of_ble_eq_true rfl) rfl kk) ?_
    rw [f15]
    refine r_gen (fun mm => (zz mm = z + 208 + 2 * 32 ∧ nn mm = nn m + 4670 + 34 * 32 ∧ (∀ q, q < z → q ≠ a → Eqa m mm q ∧ gT mm q = gT m q ∧ gN mm q = gN m q) ∧ gT mm (a) = 1 ∧ gN mm (a) = gN m a ∧ gT mm (z + 0) = 17 ∧ gN mm (z + 0) = 200 ∧ gP mm 0 (a) = some (z + 0) ∧ gT mm (z + 1) = 16 ∧ gN mm (z + 1) = 32 ∧ gP mm 1 (a) = some (z + 1) ∧ gT mm (z + 2) = 4 ∧ gT mm (z + 3) = 12 ∧ gN mm (z + 3) = 320 ∧ gP mm 61 (z + 2) = some (z + 3) ∧ gI mm 60 (z + 2) = nI 0 ∧ gP mm 2 (a) = some (z + 2) ∧ gT mm (z + 4) = 12 ∧ gN mm (z + 4) = 100 ∧ gP mm 3 (a) = some (z + 4) ∧ gT mm (z + 5) = 12 ∧ gN mm (z + 5) = 4 ∧ gP mm 4 (a) = some (z + 5) ∧ gT mm (z + 6) = 12 ∧ gN mm (z + 6) = 200 ∧ gP mm 5 (a) = some (z + 6) ∧ gT mm (z + 7) = 12 ∧ gN mm (z + 7) = 12 ∧ gP mm 6 (a) = some (z + 7) ∧ aI mm (z + 7) = (fun _ => 0) ∧ gI mm 7 (a) = nI 0 ∧ gI mm 8 (a) = nI 0 ∧ gI mm 9 (a) = nI 1 ∧ gI mm 10 (a) = nI 0 ∧ gI mm 11 (a) = nI 0 ∧ (∀ t, t < 200 → gT mm (z + 8 + t) = 5 ∧ gI mm 80 (z + 8 + t) = nI t ∧ gP mm 97 (z + 8 + t) = none ∧ aP mm (z + 0) t = some (z + 8 + t)) ∧ (∀ p, p < 32 → gT mm (z + 208 + 2 * p) = 3 ∧ gT mm (z + 209 + 2 * p) = 11 ∧ gN mm (z + 209 + 2 * p) = 32 ∧ gI mm 40 (z + 208 + 2 * p) = -1 ∧ gP mm 41 (z + 208 + 2 * p) = some (z + 209 + 2 * p) ∧ aP mm (z + 1) p = some (z + 208 + 2 * p) ∧ ∀ j, aI mm (z + 209 + 2 * p) j = 0)) ∧ (∀ j, j < 100 → aI mm (z + 4) j = (-2))) ⟨⟨by rw [(fl_z _ _ _).1]; exact hz, by rw [(fl_z _ _ _).2.1]; exact hn, fun q h1 h2 => ⟨(hold q h1 h2).1.tr (fl_eqa (by omega) _), by rw [fl_T]; exact (hold q h1 h2).2.1, by rw [fl_N]; exact (hold q h1 h2).2.2⟩, by rw [fl_T]; exact f0, by rw [fl_N]; exact f1, by rw [fl_T]; exact f2, by rw [fl_N]; exact f3, by rw [fl_P]; exact f4, by rw [fl_T]; exact f5, by rw [fl_N]; exact f6, by rw [fl_P]; exact f7, by rw [fl_T]; exact f8, by rw [fl_T]; exact f9, by rw [fl_N]; exact f10, by rw [fl_P]; exact f11, by rw [fl_I]; exact f12, by rw [fl_P]; exact f13, by rw [fl_T]; exact f14, by rw [fl_N]; exact f15, by rw [fl_P]; exact f16, by rw [fl_T]; exact f17, by rw [fl_N]; exact f18, by rw [fl_P]; exact f19, by rw [fl_T]; exact f20, by rw [fl_N]; exact f21, by rw [fl_P]; exact f22, by rw [fl_T]; exact f23, by rw [fl_N]; exact f24, by rw [fl_P]; exact f25, by rw [fl_ne _ _ (by omega)]; exact f26, by rw [fl_I]; exact f27, by rw [fl_I]; exact f28, by rw [fl_I]; exact f29, by rw [fl_I]; exact f30, by rw [fl_I]; exact f31, fun t ht => by rw [fl_T, fl_I, fl_P, (fl_z _ _ _).2.2.2]; exact hTK t ht, fun p hp => by rw [fl_T, fl_N, fl_I, fl_P, (fl_z _ _ _).2.2.2, fl_ne _ _ (by omega)]; exact hPK p hp⟩, fl_at _ _ _⟩ (fun w153 hy => ?_)
    obtain ⟨⟨hz, hn, hold, f0, f1, f2, f3, f4, f5, f6, f7, f8, f9, f10, f11, f12, f13, f14, f15, f16, f17, f18, f19, f20, f21, f22, f23, f24, f25, f26, f27, f28, f29, f30, f31, hTK, hPK⟩, ff4⟩ := hy
    refine r_go (fun kk => e_aload_n 0 dX0_init_156 rfl kk) ?_
    refine r_go (fun kk => e_getP (some (z + 5)) dX0_init_157 fl_X0_34 rfl f0 f19 kk) ?_
    refine r_go (fun kk => e_ic ((-1)) dX0_init_160 (by decide) kk) ?_
    refine r_go (fun kk => e_callS (st := []) (st1 := []) (As := [.ref (z + 5), .int (-1)]) (a_fillI (G := G) (x := (-1)) f17 (by rw [f18]; decide)) dX0_init_161 (by decide) cm_J7_fill_53178 lk_X0_63 sm_J7_fill_53178 rfl rfl (Nat.le_of_ble_eq_true rfl) rfl kk) ?_
    rw [f18]
    refine r_gen (fun mm => (zz mm = z + 208 + 2 * 32 ∧ nn mm = nn m + 4670 + 34 * 32 ∧ (∀ q, q < z → q ≠ a → Eqa m mm q ∧ gT mm q = gT m q ∧ gN mm q = gN m q) ∧ gT mm (a) = 1 ∧ gN mm (a) = gN m a ∧ gT mm (z + 0) = 17 ∧ gN mm (z + 0) = 200 ∧ gP mm 0 (a) = some (z + 0) ∧ gT mm (z + 1) = 16 ∧ gN mm (z + 1) = 32 ∧ gP mm 1 (a) = some (z + 1) ∧ gT mm (z + 2) = 4 ∧ gT mm (z + 3) = 12 ∧ gN mm (z + 3) = 320 ∧ gP mm 61 (z + 2) = some (z + 3) ∧ gI mm 60 (z + 2) = nI 0 ∧ gP mm 2 (a) = some (z + 2) ∧ gT mm (z + 4) = 12 ∧ gN mm (z + 4) = 100 ∧ gP mm 3 (a) = some (z + 4) ∧ gT mm (z + 5) = 12 ∧ gN mm (z + 5) = 4 ∧ gP mm 4 (a) = some (z + 5) ∧ gT mm (z + 6) = 12 ∧ gN mm (z + 6) = 200 ∧ gP mm 5 (a) = some (z + 6) ∧ gT mm (z + 7) = 12 ∧ gN mm (z + 7) = 12 ∧ gP mm 6 (a) = some (z + 7) ∧ aI mm (z + 7) = (fun _ => 0) ∧ gI mm 7 (a) = nI 0 ∧ gI mm 8 (a) = nI 0 ∧ gI mm 9 (a) = nI 1 ∧ gI mm 10 (a) = nI 0 ∧ gI mm 11 (a) = nI 0 ∧ (∀ t, t < 200 → gT mm (z + 8 + t) = 5 ∧ gI mm 80 (z + 8 + t) = nI t ∧ gP mm 97 (z + 8 + t) = none ∧ aP mm (z + 0) t = some (z + 8 + t)) ∧ (∀ p, p < 32 → gT mm (z + 208 + 2 * p) = 3 ∧ gT mm (z + 209 + 2 * p) = 11 ∧ gN mm (z + 209 + 2 * p) = 32 ∧ gI mm 40 (z + 208 + 2 * p) = -1 ∧ gP mm 41 (z + 208 + 2 * p) = some (z + 209 + 2 * p) ∧ aP mm (z + 1) p = some (z + 208 + 2 * p) ∧ ∀ j, aI mm (z + 209 + 2 * p) j = 0)) ∧ (∀ j, j < 100 → aI mm (z + 4) j = -2) ∧ (∀ j, j < 4 → aI mm (z + 5) j = (-1))) ⟨⟨by rw [(fl_z _ _ _).1]; exact hz, by rw [(fl_z _ _ _).2.1]; exact hn, fun q h1 h2 => ⟨(hold q h1 h2).1.tr (fl_eqa (by omega) _), by rw [fl_T]; exact (hold q h1 h2).2.1, by rw [fl_N]; exact (hold q h1 h2).2.2⟩, by rw [fl_T]; exact f0, by rw [fl_N]; exact f1, by rw [fl_T]; exact f2, by rw [fl_N]; exact f3, by rw [fl_P]; exact f4, by rw [fl_T]; exact f5, by rw [fl_N]; exact f6, by rw [fl_P]; exact f7, by rw [fl_T]; exact f8, by rw [fl_T]; exact f9, by rw [fl_N]; exact f10, by rw [fl_P]; exact f11, by rw [fl_I]; exact f12, by rw [fl_P]; exact f13, by rw [fl_T]; exact f14, by rw [fl_N]; exact f15, by rw [fl_P]; exact f16, by rw [fl_T]; exact f17, by rw [fl_N]; exact f18, by rw [fl_P]; exact f19, by rw [fl_T]; exact f20, by rw [fl_N]; exact f21, by rw [fl_P]; exact f22, by rw [fl_T]; exact f23, by rw [fl_N]; exact f24, by rw [fl_P]; exact f25, by rw [fl_ne _ _ (by omega)]; exact f26, by rw [fl_I]; exact f27, by rw [fl_I]; exact f28, by rw [fl_I]; exact f29, by rw [fl_I]; exact f30, by rw [fl_I]; exact f31, fun t ht => by rw [fl_T, fl_I, fl_P, (fl_z _ _ _).2.2.2]; exact hTK t ht, fun p hp => by rw [fl_T, fl_N, fl_I, fl_P, (fl_z _ _ _).2.2.2, fl_ne _ _ (by omega)]; exact hPK p hp⟩, fun j hj => by rw [fl_ne _ _ (show z + 4 ≠ z + 5 by omega)]; exact ff4 j hj, fl_at _ _ _⟩ (fun w161 hy => ?_)
    obtain ⟨⟨hz, hn, hold, f0, f1, f2, f3, f4, f5, f6, f7, f8, f9, f10, f11, f12, f13, f14, f15, f16, f17, f18, f19, f20, f21, f22, f23, f24, f25, f26, f27, f28, f29, f30, f31, hTK, hPK⟩, ff4, ff5⟩ := hy
    have hE := ki_end (m := m) (o := o) (b := b) hzm ha ho hfr hT f1 ⟨⟨hz, hn, hold, f0, f1, f2, f3, f4, f5, f6, f7, f8, f9, f10, f11, f12, f13, f14, f15, f16, f17, f18, f19, f20, f21, f22, f23, f24, f25, f26, f27, f28, f29, f30, f31, hTK, hPK⟩, ff4, ff5⟩
    subst hzm
    exact r_ret ⟨rfl, hE.1, hE.2.1, hE.2.2.1, hE.2.2.2, by omega, by omega⟩ (e_retV dX0_init_164 rfl rfl)
  have L2 : ∀ (k i : Nat) (M : Mem), i + k = 32 → (zz M = z + 208 + 2 * i ∧ nn M = nn m + 4670 + 34 * i ∧ (∀ q, q < z → q ≠ a → Eqa m M q ∧ gT M q = gT m q ∧ gN M q = gN m q) ∧ gT M (a) = 1 ∧ gN M (a) = gN m a ∧ gT M (z + 0) = 17 ∧ gN M (z + 0) = 200 ∧ gP M 0 (a) = some (z + 0) ∧ gT M (z + 1) = 16 ∧ gN M (z + 1) = 32 ∧ gP M 1 (a) = some (z + 1) ∧ gT M (z + 2) = 4 ∧ gT M (z + 3) = 12 ∧ gN M (z + 3) = 320 ∧ gP M 61 (z + 2) = some (z + 3) ∧ gI M 60 (z + 2) = nI 0 ∧ gP M 2 (a) = some (z + 2) ∧ gT M (z + 4) = 12 ∧ gN M (z + 4) = 100 ∧ gP M 3 (a) = some (z + 4) ∧ gT M (z + 5) = 12 ∧ gN M (z + 5) = 4 ∧ gP M 4 (a) = some (z + 5) ∧ gT M (z + 6) = 12 ∧ gN M (z + 6) = 200 ∧ gP M 5 (a) = some (z + 6) ∧ gT M (z + 7) = 12 ∧ gN M (z + 7) = 12 ∧ gP M 6 (a) = some (z + 7) ∧ aI M (z + 7) = (fun _ => 0) ∧ gI M 7 (a) = nI 0 ∧ gI M 8 (a) = nI 0 ∧ gI M 9 (a) = nI 1 ∧ gI M 10 (a) = nI 0 ∧ gI M 11 (a) = nI 0 ∧ (∀ t, t < 200 → gT M (z + 8 + t) = 5 ∧ gI M 80 (z + 8 + t) = nI t ∧ gP M 97 (z + 8 + t) = none ∧ aP M (z + 0) t = some (z + 8 + t)) ∧ (∀ p, p < i → gT M (z + 208 + 2 * p) = 3 ∧ gT M (z + 209 + 2 * p) = 11 ∧ gN M (z + 209 + 2 * p) = 32 ∧ gI M 40 (z + 208 + 2 * p) = -1 ∧ gP M 41 (z + 208 + 2 * p) = some (z + 209 + 2 * p) ∧ aP M (z + 1) p = some (z + 208 + 2 * p) ∧ ∀ j, aI M (z + 209 + 2 * p) j = 0)) → EvR G 2 uX0_init (zz m) (nn m) (fun r mm => r = none ∧ KT mm (kiY o a (zz m) b) ∧ BYT mm (kiY o a (zz m) b) ∧ (∀ (ρ : Nat) (kf : KF) (vf : VF), KI kf → KV mm (kiY o a (zz m) b) ρ kf vf 0) ∧ FS (Ow b) m o mm (kiO o (zz m) b) ∧ zz mm = zz m + 272 ∧ nn mm = nn m + 5758) 122 [(1, .int (nI i)), (0, .ref a)] [] M := by
    intro k
    induction k with
    | zero =>
      intro i M hi hx
      rw [show i = 32 by omega] at hx
      refine r_go (fun kk => e_iload_n 0 dX0_init_122 rfl kk) ?_
      refine r_go (fun kk => e_bipush (v := nI 32) dX0_init_123 (by decide) kk) ?_
      refine r_go (fun kk => e_icmp_geN 147 dX0_init_125 (by decide) (by omega) (by omega) (fun _ => kk) (fun h => absurd h (by omega))) ?_
      refine r_go (fun kk => e_sub [1] rfl kk) ?_
      exact L3 M hx
    | succ k ih =>
      intro i M hi hx
      obtain ⟨hz, hn, hold, f0, f1, f2, f3, f4, f5, f6, f7, f8, f9, f10, f11, f12, f13, f14, f15, f16, f17, f18, f19, f20, f21, f22, f23, f24, f25, f26, f27, f28, f29, f30, f31, hTK, hPK⟩ := hx
      refine r_go (fun kk => e_iload_n 0 dX0_init_122 rfl kk) ?_
      refine r_go (fun kk => e_bipush (v := nI 32) dX0_init_123 (by decide) kk) ?_
      refine r_go (fun kk => e_icmp_geN 147 dX0_init_125 (by decide) (by omega) (by omega) (fun h => absurd h (by omega)) (fun _ => kk)) ?_
      refine r_go (fun kk => e_aload_n 1 dX0_init_128 rfl kk) ?_
      refine r_go (fun kk => e_getP (some (z + 1)) dX0_init_129 fl_X0_19 rfl f0 f7 kk) ?_
      refine r_go (fun kk => e_iload_n 0 dX0_init_132 rfl kk) ?_
      refine r_go (fun kk => e_new (ci := 2) dX0_init_133 rfl cl_X0_17 ins_X2 ini_X2 kk) ?_
      refine r_go (fun kk => e_dup dX0_init_136 rfl kk) ?_
      have hw3 := nw_0 M 3 2
      refine r_go (fun kk => e_callI (st := [.ref (zz M), .int (nI i), .ref (z + 1)]) (As := []) (x_progInit (G := G) (m := nw M 3 2) (a := zz M) hw3.1 (by rw [hw3.2.2.2.1]; omega)) dX0_init_137 (by decide) cm_X2_init rfl rfl lk_X0_62 im_X2_init rfl rfl (Nat.le_of_ble_eq_true rfl) kk) ?_
      generalize hX : piM (nw M 3 2) (zz M) = X
      obtain ⟨b1, b2, b3, b4, b5, b6, b7, b8, b10, b9, bT, bQ⟩ := po_f (m := M) (r := z + 1) (i := i) (z := z + 208 + 2 * i) hz.symm hX.symm
      refine r_go (fun kk => e_aast (ci := 2) dX0_init_140 ((bQ (z + 1) (by omega)).1.trans f5) (Or.inl ⟨rfl, rfl⟩) (by rw [hz]; exact bT) (by rw [(bQ (z + 1) (by omega)).2, f6]; exact vp_in_nI (by omega) (by decide)) kk) ?_
      rw [nI_clamp (by omega)]
      refine r_gen (fun mm => zz mm = z + 208 + 2 * (i + 1) ∧ nn mm = nn m + 4670 + 34 * (i + 1) ∧ (∀ q, q < z → q ≠ a → Eqa m mm q ∧ gT mm q = gT m q ∧ gN mm q = gN m q) ∧ gT mm (a) = 1 ∧ gN mm (a) = gN m a ∧ gT mm (z + 0) = 17 ∧ gN mm (z + 0) = 200 ∧ gP mm 0 (a) = some (z + 0) ∧ gT mm (z + 1) = 16 ∧ gN mm (z + 1) = 32 ∧ gP mm 1 (a) = some (z + 1) ∧ gT mm (z + 2) = 4 ∧ gT mm (z + 3) = 12 ∧ gN mm (z + 3) = 320 ∧ gP mm 61 (z + 2) = some (z + 3) ∧ gI mm 60 (z + 2) = nI 0 ∧ gP mm 2 (a) = some (z + 2) ∧ gT mm (z + 4) = 12 ∧ gN mm (z + 4) = 100 ∧ gP mm 3 (a) = some (z + 4) ∧ gT mm (z + 5) = 12 ∧ gN mm (z + 5) = 4 ∧ gP mm 4 (a) = some (z + 5) ∧ gT mm (z + 6) = 12 ∧ gN mm (z + 6) = 200 ∧ gP mm 5 (a) = some (z + 6) ∧ gT mm (z + 7) = 12 ∧ gN mm (z + 7) = 12 ∧ gP mm 6 (a) = some (z + 7) ∧ aI mm (z + 7) = (fun _ => 0) ∧ gI mm 7 (a) = nI 0 ∧ gI mm 8 (a) = nI 0 ∧ gI mm 9 (a) = nI 1 ∧ gI mm 10 (a) = nI 0 ∧ gI mm 11 (a) = nI 0 ∧ (∀ t, t < 200 → gT mm (z + 8 + t) = 5 ∧ gI mm 80 (z + 8 + t) = nI t ∧ gP mm 97 (z + 8 + t) = none ∧ aP mm (z + 0) t = some (z + 8 + t)) ∧ (∀ p, p < (i + 1) → gT mm (z + 208 + 2 * p) = 3 ∧ gT mm (z + 209 + 2 * p) = 11 ∧ gN mm (z + 209 + 2 * p) = 32 ∧ gI mm 40 (z + 208 + 2 * p) = -1 ∧ gP mm 41 (z + 208 + 2 * p) = some (z + 209 + 2 * p) ∧ aP mm (z + 1) p = some (z + 208 + 2 * p) ∧ ∀ j, aI mm (z + 209 + 2 * p) j = 0)) ⟨b1.trans (by omega), b2.trans (by omega), fun q h1 h2 => ⟨(hold q h1 h2).1.tr ((b9 q (by omega)).2.2.2.2.2.2 (by omega)), (b9 q (by omega)).1.trans (hold q h1 h2).2.1, (b9 q (by omega)).2.1.trans (hold q h1 h2).2.2⟩, (b9 _ (by omega)).1.trans f0, (b9 _ (by omega)).2.1.trans f1, (b9 _ (by omega)).1.trans f2, (b9 _ (by omega)).2.1.trans f3, ((b9 _ (by omega)).2.2.2.1 _).trans f4, (b9 _ (by omega)).1.trans f5, (b9 _ (by omega)).2.1.trans f6, ((b9 _ (by omega)).2.2.2.1 _).trans f7, (b9 _ (by omega)).1.trans f8, (b9 _ (by omega)).1.trans f9, (b9 _ (by omega)).2.1.trans f10, ((b9 _ (by omega)).2.2.2.1 _).trans f11, ((b9 _ (by omega)).2.2.1 _).trans f12, ((b9 _ (by omega)).2.2.2.1 _).trans f13, (b9 _ (by omega)).1.trans f14, (b9 _ (by omega)).2.1.trans f15, ((b9 _ (by omega)).2.2.2.1 _).trans f16, (b9 _ (by omega)).1.trans f17, (b9 _ (by omega)).2.1.trans f18, ((b9 _ (by omega)).2.2.2.1 _).trans f19, (b9 _ (by omega)).1.trans f20, (b9 _ (by omega)).2.1.trans f21, ((b9 _ (by omega)).2.2.2.1 _).trans f22, (b9 _ (by omega)).1.trans f23, (b9 _ (by omega)).2.1.trans f24, ((b9 _ (by omega)).2.2.2.1 _).trans f25, (b9 _ (by omega)).2.2.2.2.1.trans f26, ((b9 _ (by omega)).2.2.1 _).trans f27, ((b9 _ (by omega)).2.2.1 _).trans f28, ((b9 _ (by omega)).2.2.1 _).trans f29, ((b9 _ (by omega)).2.2.1 _).trans f30, ((b9 _ (by omega)).2.2.1 _).trans f31, fun t ht => ?_, fun p hp => ?_⟩ (fun M2 hx2 => ?_)
      · obtain ⟨t1, t2, t3, t4⟩ := hTK t ht
        have b := b9 (z + 8 + t) (by omega)
        exact ⟨b.1.trans t1, (b.2.2.1 _).trans t2, (b.2.2.2.1 _).trans t3, ((b9 (z + 0) (by omega)).2.2.2.2.2.1 t (Or.inl (by omega))).trans t4⟩
      · by_cases e : p = i
        · subst e
          rw [show z + 209 + 2 * p = z + 208 + 2 * p + 1 by omega]
          exact ⟨b3, b4, b5, b6, b7, b8, b10⟩
        · obtain ⟨p1, p2, p3, p4, p5, p6, p7⟩ := hPK p (by omega)
          have x := b9 (z + 208 + 2 * p) (by omega)
          have y := b9 (z + 209 + 2 * p) (by omega)
          exact ⟨x.1.trans p1, y.1.trans p2, y.2.1.trans p3, (x.2.2.1 _).trans p4, (x.2.2.2.1 _).trans p5, ((b9 (z + 1) (by omega)).2.2.2.2.2.1 p (Or.inr e)).trans p6, fun j => by rw [y.2.2.2.2.1]; exact p7 j⟩
      refine r_go (fun kk => e_iinc1N (lv' := [(1, .int (nI (i + 1))), (0, .ref a)]) 0 dX0_init_141 rfl (by decide) rfl kk) ?_
      refine r_go (fun kk => e_goto 122 dX0_init_144 (by decide) kk) ?_
      refine r_go (fun kk => e_sub [0, 1] rfl kk) ?_
      exact ih (i + 1) M2 (by omega) hx2
  have L1 : ∀ (k i : Nat) (M : Mem), i + k = 200 → (zz M = z + 8 + i ∧ nn M = nn m + 870 + 19 * i ∧ (∀ q, q < z → q ≠ a → Eqa m M q ∧ gT M q = gT m q ∧ gN M q = gN m q) ∧ gT M (a) = 1 ∧ gN M (a) = gN m a ∧ gT M (z + 0) = 17 ∧ gN M (z + 0) = 200 ∧ gP M 0 (a) = some (z + 0) ∧ gT M (z + 1) = 16 ∧ gN M (z + 1) = 32 ∧ gP M 1 (a) = some (z + 1) ∧ gT M (z + 2) = 4 ∧ gT M (z + 3) = 12 ∧ gN M (z + 3) = 320 ∧ gP M 61 (z + 2) = some (z + 3) ∧ gI M 60 (z + 2) = nI 0 ∧ gP M 2 (a) = some (z + 2) ∧ gT M (z + 4) = 12 ∧ gN M (z + 4) = 100 ∧ gP M 3 (a) = some (z + 4) ∧ gT M (z + 5) = 12 ∧ gN M (z + 5) = 4 ∧ gP M 4 (a) = some (z + 5) ∧ gT M (z + 6) = 12 ∧ gN M (z + 6) = 200 ∧ gP M 5 (a) = some (z + 6) ∧ gT M (z + 7) = 12 ∧ gN M (z + 7) = 12 ∧ gP M 6 (a) = some (z + 7) ∧ aI M (z + 7) = (fun _ => 0) ∧ gI M 7 (a) = nI 0 ∧ gI M 8 (a) = nI 0 ∧ gI M 9 (a) = nI 1 ∧ gI M 10 (a) = nI 0 ∧ gI M 11 (a) = nI 0 ∧ (∀ t, t < i → gT M (z + 8 + t) = 5 ∧ gI M 80 (z + 8 + t) = nI t ∧ gP M 97 (z + 8 + t) = none ∧ aP M (z + 0) t = some (z + 8 + t))) → EvR G 2 uX0_init (zz m) (nn m) (fun r mm => r = none ∧ KT mm (kiY o a (zz m) b) ∧ BYT mm (kiY o a (zz m) b) ∧ (∀ (ρ : Nat) (kf : KF) (vf : VF), KI kf → KV mm (kiY o a (zz m) b) ρ kf vf 0) ∧ FS (Ow b) m o mm (kiO o (zz m) b) ∧ zz mm = zz m + 272 ∧ nn mm = nn m + 5758) 93 [(1, .int (nI i)), (0, .ref a)] [] M := by
    intro k
    induction k with
    | zero =>
      intro i M hi hx
      obtain ⟨hz, hn, hold, f0, f1, f2, f3, f4, f5, f6, f7, f8, f9, f10, f11, f12, f13, f14, f15, f16, f17, f18, f19, f20, f21, f22, f23, f24, f25, f26, f27, f28, f29, f30, f31, hTK⟩ := hx
      rw [show i = 200 by omega] at hz hn hTK
      refine r_go (fun kk => e_iload_n 0 dX0_init_93 rfl kk) ?_
      refine r_go (fun kk => e_sipush (v := nI 200) dX0_init_94 (by decide) kk) ?_
      refine r_go (fun kk => e_icmp_geN 120 dX0_init_97 (by decide) (by omega) (by omega) (fun _ => kk) (fun h => absurd h (by omega))) ?_
      refine r_go (fun kk => e_ic (nI 0) dX0_init_120 (by decide) kk) ?_
      refine r_go (fun kk => e_istore_n (lv' := [(1, .int (nI 0)), (0, .ref a)]) dX0_init_121 (by decide) rfl kk) ?_
      refine r_go (fun kk => e_sub [0, 1] rfl kk) ?_
      exact L2 32 0 M (by omega) ⟨hz, hn, hold, f0, f1, f2, f3, f4, f5, f6, f7, f8, f9, f10, f11, f12, f13, f14, f15, f16, f17, f18, f19, f20, f21, f22, f23, f24, f25, f26, f27, f28, f29, f30, f31, hTK, fun p hp => absurd hp (Nat.not_lt_zero _)⟩
    | succ k ih =>
      intro i M hi hx
      obtain ⟨hz, hn, hold, f0, f1, f2, f3, f4, f5, f6, f7, f8, f9, f10, f11, f12, f13, f14, f15, f16, f17, f18, f19, f20, f21, f22, f23, f24, f25, f26, f27, f28, f29, f30, f31, hTK⟩ := hx
      refine r_go (fun kk => e_iload_n 0 dX0_init_93 rfl kk) ?_
      refine r_go (fun kk => e_sipush (v := nI 200) dX0_init_94 (by decide) kk) ?_
      refine r_go (fun kk => e_icmp_geN 120 dX0_init_97 (by decide) (by omega) (by omega) (fun h => absurd h (by omega)) (fun _ => kk)) ?_
      refine r_go (fun kk => e_aload_n 1 dX0_init_100 rfl kk) ?_
      refine r_go (fun kk => e_getP (some (z + 0)) dX0_init_101 fl_X0_11 rfl f0 f4 kk) ?_
      refine r_go (fun kk => e_iload_n 0 dX0_init_104 rfl kk) ?_
      refine r_go (fun kk => e_new (ci := 4) dX0_init_105 rfl cl_X0_9 ins_X4 ini_X4 kk) ?_
      refine r_go (fun kk => e_dup dX0_init_108 rfl kk) ?_
      refine r_go (fun kk => e_iload_n 0 dX0_init_109 rfl kk) ?_
      have hw5 := nw_0 M 5 19
      refine r_go (fun kk => e_callI (st := [.ref (zz M), .int (nI i), .ref (z + 0)]) (As := [.int (nI i)]) (x_taskInit (G := G) (m := nw M 5 19) (a := zz M) hw5.1 (nI i)) dX0_init_110 (by decide) cm_X4_init rfl rfl lk_X0_59 im_X4_init rfl rfl (Nat.le_of_ble_eq_true rfl) kk) ?_
      generalize hX : tiM (nw M 5 19) (zz M) (nI i) = X
      obtain ⟨b1, b2, b3, b4, b5, b6, b9, bT, bQ⟩ := ta_f (m := M) (r := z + 0) (i := i) (z := z + 8 + i) hz.symm hX.symm
      refine r_go (fun kk => e_aast (ci := 4) dX0_init_113 ((bQ (z + 0) (by omega)).1.trans f2) (Or.inr ⟨rfl, rfl⟩) (by rw [hz]; exact bT) (by rw [(bQ (z + 0) (by omega)).2, f3]; exact vp_in_nI (by omega) (by decide)) kk) ?_
      rw [nI_clamp (by omega)]
      refine r_gen (fun mm => zz mm = z + 8 + (i + 1) ∧ nn mm = nn m + 870 + 19 * (i + 1) ∧ (∀ q, q < z → q ≠ a → Eqa m mm q ∧ gT mm q = gT m q ∧ gN mm q = gN m q) ∧ gT mm (a) = 1 ∧ gN mm (a) = gN m a ∧ gT mm (z + 0) = 17 ∧ gN mm (z + 0) = 200 ∧ gP mm 0 (a) = some (z + 0) ∧ gT mm (z + 1) = 16 ∧ gN mm (z + 1) = 32 ∧ gP mm 1 (a) = some (z + 1) ∧ gT mm (z + 2) = 4 ∧ gT mm (z + 3) = 12 ∧ gN mm (z + 3) = 320 ∧ gP mm 61 (z + 2) = some (z + 3) ∧ gI mm 60 (z + 2) = nI 0 ∧ gP mm 2 (a) = some (z + 2) ∧ gT mm (z + 4) = 12 ∧ gN mm (z + 4) = 100 ∧ gP mm 3 (a) = some (z + 4) ∧ gT mm (z + 5) = 12 ∧ gN mm (z + 5) = 4 ∧ gP mm 4 (a) = some (z + 5) ∧ gT mm (z + 6) = 12 ∧ gN mm (z + 6) = 200 ∧ gP mm 5 (a) = some (z + 6) ∧ gT mm (z + 7) = 12 ∧ gN mm (z + 7) = 12 ∧ gP mm 6 (a) = some (z + 7) ∧ aI mm (z + 7) = (fun _ => 0) ∧ gI mm 7 (a) = nI 0 ∧ gI mm 8 (a) = nI 0 ∧ gI mm 9 (a) = nI 1 ∧ gI mm 10 (a) = nI 0 ∧ gI mm 11 (a) = nI 0 ∧ (∀ t, t < (i + 1) → gT mm (z + 8 + t) = 5 ∧ gI mm 80 (z + 8 + t) = nI t ∧ gP mm 97 (z + 8 + t) = none ∧ aP mm (z + 0) t = some (z + 8 + t))) ⟨b1.trans (by omega), b2.trans (by omega), fun q h1 h2 => ⟨(hold q h1 h2).1.tr ((b9 q (by omega)).2.2.2.2.2.2 (by omega)), (b9 q (by omega)).1.trans (hold q h1 h2).2.1, (b9 q (by omega)).2.1.trans (hold q h1 h2).2.2⟩, (b9 _ (by omega)).1.trans f0, (b9 _ (by omega)).2.1.trans f1, (b9 _ (by omega)).1.trans f2, (b9 _ (by omega)).2.1.trans f3, ((b9 _ (by omega)).2.2.2.1 _).trans f4, (b9 _ (by omega)).1.trans f5, (b9 _ (by omega)).2.1.trans f6, ((b9 _ (by omega)).2.2.2.1 _).trans f7, (b9 _ (by omega)).1.trans f8, (b9 _ (by omega)).1.trans f9, (b9 _ (by omega)).2.1.trans f10, ((b9 _ (by omega)).2.2.2.1 _).trans f11, ((b9 _ (by omega)).2.2.1 _).trans f12, ((b9 _ (by omega)).2.2.2.1 _).trans f13, (b9 _ (by omega)).1.trans f14, (b9 _ (by omega)).2.1.trans f15, ((b9 _ (by omega)).2.2.2.1 _).trans f16, (b9 _ (by omega)).1.trans f17, (b9 _ (by omega)).2.1.trans f18, ((b9 _ (by omega)).2.2.2.1 _).trans f19, (b9 _ (by omega)).1.trans f20, (b9 _ (by omega)).2.1.trans f21, ((b9 _ (by omega)).2.2.2.1 _).trans f22, (b9 _ (by omega)).1.trans f23, (b9 _ (by omega)).2.1.trans f24, ((b9 _ (by omega)).2.2.2.1 _).trans f25, (b9 _ (by omega)).2.2.2.2.1.trans f26, ((b9 _ (by omega)).2.2.1 _).trans f27, ((b9 _ (by omega)).2.2.1 _).trans f28, ((b9 _ (by omega)).2.2.1 _).trans f29, ((b9 _ (by omega)).2.2.1 _).trans f30, ((b9 _ (by omega)).2.2.1 _).trans f31, fun t ht => ?_⟩ (fun M2 hx2 => ?_)
      · by_cases e : t = i
        · subst e
          exact ⟨b3, b4, b5, b6⟩
        · obtain ⟨t1, t2, t3, t4⟩ := hTK t (by omega)
          have b := b9 (z + 8 + t) (by omega)
          exact ⟨b.1.trans t1, (b.2.2.1 _).trans t2, (b.2.2.2.1 _).trans t3, ((b9 (z + 0) (by omega)).2.2.2.2.2.1 t (Or.inr e)).trans t4⟩
      refine r_go (fun kk => e_iinc1N (lv' := [(1, .int (nI (i + 1))), (0, .ref a)]) 0 dX0_init_114 rfl (by decide) rfl kk) ?_
      refine r_go (fun kk => e_goto 93 dX0_init_117 (by decide) kk) ?_
      refine r_go (fun kk => e_sub [0, 1] rfl kk) ?_
      exact ih (i + 1) M2 (by omega) hx2
  have hz : zz m = z + 0 := hzm.symm
  have hn : nn m = nn m + 0 := rfl
  have hold : (∀ q, q < z → q ≠ a → Eqa m m q ∧ gT m q = gT m q ∧ gN m q = gN m q) := fun q _ _ => ⟨Eqa.rf m q, rfl, rfl⟩
  have f0 := hT
  have f1 : gN m a = gN m a := rfl
  refine r_go (fun kk => e_lvs (lv' := [(0, .ref a)]) rfl kk) ?_
  refine r_go (fun kk => e_aload_n 0 dX0_init_0 rfl kk) ?_
  refine r_go (fun kk => e_objInit dX0_init_1 lkm_X0_3 im_obj code_obj (by decide) kk) ?_
  refine r_go (fun kk => e_aload_n 0 dX0_init_4 rfl kk) ?_
  refine r_go (fun kk => e_sipush (v := nI 200) dX0_init_5 (by decide) kk) ?_
  refine r_go (fun kk => e_anew (t := 17) (N := 200) dX0_init_8 cl_X0_9 ao_X4 ⟨by omega, rfl⟩ (by decide) rfl (by omega) kk) ?_
  refine r_go (fun kk => e_putF (ci := 0) (k := 0) (some (zz m)) dX0_init_11 rfl (by decide) fl_X0_11m rfl rfl rfl rfl ⟨rfl, rfl⟩ rfl ((nw_T (by omega)).trans f0) kk) ?_
  refine r_gen (fun mm => zz mm = z + 1 ∧ nn mm = nn m + 200 ∧ (∀ q, q < z → q ≠ a → Eqa m mm q ∧ gT mm q = gT m q ∧ gN mm q = gN m q) ∧ gT mm (a) = 1 ∧ gN mm (a) = gN m a ∧ gT mm (z + 0) = 17 ∧ gN mm (z + 0) = 200 ∧ gP mm 0 (a) = some (z + 0)) ⟨(s5_z m 17 200 0 a).trans (by omega), (s5_n m 17 200 0 a).trans (by omega), fun q h1 h2 => ⟨(hold q h1 h2).1.tr (s5_eqa (by omega) h2), (s5_T _ _ _ _ _ (by omega)).trans (hold q h1 h2).2.1, (s5_N _ _ _ _ _ (by omega)).trans (hold q h1 h2).2.2⟩, (s5_T _ _ _ _ _ (by omega)).trans f0, (s5_N _ _ _ _ _ (by omega)).trans f1, s5_T1 m 17 200 0 a (by omega), s5_N1 m 17 200 0 a (by omega), s5_P1 m 17 200 0 a (by omega)⟩ (fun w1 hy => ?_)
  obtain ⟨hz, hn, hold, f0, f1, f2, f3, f4⟩ := hy
  refine r_go (fun kk => e_aload_n 0 dX0_init_14 rfl kk) ?_
  refine r_go (fun kk => e_bipush (v := nI 32) dX0_init_15 (by decide) kk) ?_
  refine r_go (fun kk => e_anew (t := 16) (N := 32) dX0_init_17 cl_X0_17 ao_X2 ⟨by omega, rfl⟩ (by decide) rfl (by omega) kk) ?_
  refine r_go (fun kk => e_putF (ci := 0) (k := 1) (some (zz w1)) dX0_init_20 rfl (by decide) fl_X0_19m rfl rfl rfl rfl ⟨rfl, rfl⟩ rfl ((nw_T (by omega)).trans f0) kk) ?_
  refine r_gen (fun mm => zz mm = z + 2 ∧ nn mm = nn m + 232 ∧ (∀ q, q < z → q ≠ a → Eqa m mm q ∧ gT mm q = gT m q ∧ gN mm q = gN m q) ∧ gT mm (a) = 1 ∧ gN mm (a) = gN m a ∧ gT mm (z + 0) = 17 ∧ gN mm (z + 0) = 200 ∧ gP mm 0 (a) = some (z + 0) ∧ gT mm (z + 1) = 16 ∧ gN mm (z + 1) = 32 ∧ gP mm 1 (a) = some (z + 1)) ⟨(s5_z w1 16 32 1 a).trans (by omega), (s5_n w1 16 32 1 a).trans (by omega), fun q h1 h2 => ⟨(hold q h1 h2).1.tr (s5_eqa (by omega) h2), (s5_T _ _ _ _ _ (by omega)).trans (hold q h1 h2).2.1, (s5_N _ _ _ _ _ (by omega)).trans (hold q h1 h2).2.2⟩, (s5_T _ _ _ _ _ (by omega)).trans f0, (s5_N _ _ _ _ _ (by omega)).trans f1, (s5_T _ _ _ _ _ (by omega)).trans f2, (s5_N _ _ _ _ _ (by omega)).trans f3, (s5_P _ _ _ _ _ (Or.inl (by omega)) (by omega)).trans f4, s5_T1 w1 16 32 1 a (by omega), s5_N1 w1 16 32 1 a (by omega), s5_P1 w1 16 32 1 a (by omega)⟩ (fun w2 hy => ?_)
  obtain ⟨hz, hn, hold, f0, f1, f2, f3, f4, f5, f6, f7⟩ := hy
  refine r_go (fun kk => e_aload_n 0 dX0_init_23 rfl kk) ?_
  refine r_go (fun kk => e_new (ci := 3) dX0_init_24 rfl cl_X0_23 ins_X3 ini_X3 kk) ?_
  refine r_go (fun kk => e_dup dX0_init_27 rfl kk) ?_
  have hw4 := nw_0 w2 4 2
  refine r_go (fun kk => e_callI (st := [.ref (zz w2), .ref a]) (As := []) (x_rowsInit (G := G) (m := nw w2 4 2) (a := zz w2) hw4.1 (by rw [hw4.2.2.2.1]; omega)) dX0_init_28 (by decide) cm_X3_init rfl rfl lk_X0_25 im_X3_init rfl rfl (Nat.le_of_ble_eq_true rfl) kk) ?_
  generalize hX : riM (nw w2 4 2) (zz w2) = X
  obtain ⟨b1, b2, b3, b4, b5, b6, b7, b8, b9, b10⟩ := rb_f (m := w2) (a := a) (z := z + 2) (by omega) hz.symm hX.symm
  refine r_go (fun kk => e_putF (ci := 0) (k := 2) (some (zz w2)) dX0_init_31 rfl (by decide) fl_X0_26m rfl rfl rfl rfl ⟨rfl, rfl⟩ rfl (b10.trans f0) kk) ?_
  refine r_gen (fun mm => zz mm = z + 4 ∧ nn mm = nn m + 554 ∧ (∀ q, q < z → q ≠ a → Eqa m mm q ∧ gT mm q = gT m q ∧ gN mm q = gN m q) ∧ gT mm (a) = 1 ∧ gN mm (a) = gN m a ∧ gT mm (z + 0) = 17 ∧ gN mm (z + 0) = 200 ∧ gP mm 0 (a) = some (z + 0) ∧ gT mm (z + 1) = 16 ∧ gN mm (z + 1) = 32 ∧ gP mm 1 (a) = some (z + 1) ∧ gT mm (z + 2) = 4 ∧ gT mm (z + 3) = 12 ∧ gN mm (z + 3) = 320 ∧ gP mm 61 (z + 2) = some (z + 3) ∧ gI mm 60 (z + 2) = nI 0 ∧ gP mm 2 (a) = some (z + 2)) ⟨b1, b2.trans (by omega), fun q h1 h2 => ⟨(hold q h1 h2).1.tr ((b9 q (by omega)).2.2.2.2.2 h2), (b9 q (by omega)).1.trans (hold q h1 h2).2.1, (b9 q (by omega)).2.1.trans (hold q h1 h2).2.2⟩, (b9 _ (by omega)).1.trans f0, (b9 _ (by omega)).2.1.trans f1, (b9 _ (by omega)).1.trans f2, (b9 _ (by omega)).2.1.trans f3, ((b9 _ (by omega)).2.2.2.1 _ (by omega)).trans f4, (b9 _ (by omega)).1.trans f5, (b9 _ (by omega)).2.1.trans f6, ((b9 _ (by omega)).2.2.2.1 _ (by omega)).trans f7, b3, b4, b5, b6, b7, b8⟩ (fun w3 hy => ?_)
  obtain ⟨hz, hn, hold, f0, f1, f2, f3, f4, f5, f6, f7, f8, f9, f10, f11, f12, f13⟩ := hy
  refine r_go (fun kk => e_aload_n 0 dX0_init_34 rfl kk) ?_
  refine r_go (fun kk => e_bipush (v := nI 100) dX0_init_35 (by decide) kk) ?_
  refine r_go (fun kk => e_newa (t := 12) (N := 100) dX0_init_37 ac_int ⟨by omega, rfl⟩ (by decide) rfl (by omega) kk) ?_
  refine r_go (fun kk => e_putF (ci := 0) (k := 3) (some (zz w3)) dX0_init_39 rfl (by decide) fl_X0_30m rfl rfl rfl rfl ⟨rfl, rfl⟩ rfl ((nw_T (by omega)).trans f0) kk) ?_
  refine r_gen (fun mm => zz mm = z + 5 ∧ nn mm = nn m + 654 ∧ (∀ q, q < z → q ≠ a → Eqa m mm q ∧ gT mm q = gT m q ∧ gN mm q = gN m q) ∧ gT mm (a) = 1 ∧ gN mm (a) = gN m a ∧ gT mm (z + 0) = 17 ∧ gN mm (z + 0) = 200 ∧ gP mm 0 (a) = some (z + 0) ∧ gT mm (z + 1) = 16 ∧ gN mm (z + 1) = 32 ∧ gP mm 1 (a) = some (z + 1) ∧ gT mm (z + 2) = 4 ∧ gT mm (z + 3) = 12 ∧ gN mm (z + 3) = 320 ∧ gP mm 61 (z + 2) = some (z + 3) ∧ gI mm 60 (z + 2) = nI 0 ∧ gP mm 2 (a) = some (z + 2) ∧ gT mm (z + 4) = 12 ∧ gN mm (z + 4) = 100 ∧ gP mm 3 (a) = some (z + 4)) ⟨(s5_z w3 12 100 3 a).trans (by omega), (s5_n w3 12 100 3 a).trans (by omega), fun q h1 h2 => ⟨(hold q h1 h2).1.tr (s5_eqa (by omega) h2), (s5_T _ _ _ _ _ (by omega)).trans (hold q h1 h2).2.1, (s5_N _ _ _ _ _ (by omega)).trans (hold q h1 h2).2.2⟩, (s5_T _ _ _ _ _ (by omega)).trans f0, (s5_N _ _ _ _ _ (by omega)).trans f1, (s5_T _ _ _ _ _ (by omega)).trans f2, (s5_N _ _ _ _ _ (by omega)).trans f3, (s5_P _ _ _ _ _ (Or.inl (by omega)) (by omega)).trans f4, (s5_T _ _ _ _ _ (by omega)).trans f5, (s5_N _ _ _ _ _ (by omega)).trans f6, (s5_P _ _ _ _ _ (Or.inl (by omega)) (by omega)).trans f7, (s5_T _ _ _ _ _ (by omega)).trans f8, (s5_T _ _ _ _ _ (by omega)).trans f9, (s5_N _ _ _ _ _ (by omega)).trans f10, (s5_P _ _ _ _ _ (Or.inl (by omega)) (by omega)).trans f11, (s5_I _ _ _ _ _ (by omega)).trans f12, (s5_P _ _ _ _ _ (Or.inl (by omega)) (by omega)).trans f13, s5_T1 w3 12 100 3 a (by omega), s5_N1 w3 12 100 3 a (by omega), s5_P1 w3 12 100 3 a (by omega)⟩ (fun w4 hy => ?_)
  obtain ⟨hz, hn, hold, f0, f1, f2, f3, f4, f5, f6, f7, f8, f9, f10, f11, f12, f13, f14, f15, f16⟩ := hy
  refine r_go (fun kk => e_aload_n 0 dX0_init_42 rfl kk) ?_
  refine r_go (fun kk => e_ic (nI 4) dX0_init_43 (by decide) kk) ?_
  refine r_go (fun kk => e_newa (t := 12) (N := 4) dX0_init_44 ac_int ⟨by omega, rfl⟩ (by decide) rfl (by omega) kk) ?_
  refine r_go (fun kk => e_putF (ci := 0) (k := 4) (some (zz w4)) dX0_init_46 rfl (by decide) fl_X0_34m rfl rfl rfl rfl ⟨rfl, rfl⟩ rfl ((nw_T (by omega)).trans f0) kk) ?_
  refine r_gen (fun mm => zz mm = z + 6 ∧ nn mm = nn m + 658 ∧ (∀ q, q < z → q ≠ a → Eqa m mm q ∧ gT mm q = gT m q ∧ gN mm q = gN m q) ∧ gT mm (a) = 1 ∧ gN mm (a) = gN m a ∧ gT mm (z + 0) = 17 ∧ gN mm (z + 0) = 200 ∧ gP mm 0 (a) = some (z + 0) ∧ gT mm (z + 1) = 16 ∧ gN mm (z + 1) = 32 ∧ gP mm 1 (a) = some (z + 1) ∧ gT mm (z + 2) = 4 ∧ gT mm (z + 3) = 12 ∧ gN mm (z + 3) = 320 ∧ gP mm 61 (z + 2) = some (z + 3) ∧ gI mm 60 (z + 2) = nI 0 ∧ gP mm 2 (a) = some (z + 2) ∧ gT mm (z + 4) = 12 ∧ gN mm (z + 4) = 100 ∧ gP mm 3 (a) = some (z + 4) ∧ gT mm (z + 5) = 12 ∧ gN mm (z + 5) = 4 ∧ gP mm 4 (a) = some (z + 5)) ⟨(s5_z w4 12 4 4 a).trans (by omega), (s5_n w4 12 4 4 a).trans (by omega), fun q h1 h2 => ⟨(hold q h1 h2).1.tr (s5_eqa (by omega) h2), (s5_T _ _ _ _ _ (by omega)).trans (hold q h1 h2).2.1, (s5_N _ _ _ _ _ (by omega)).trans (hold q h1 h2).2.2⟩, (s5_T _ _ _ _ _ (by omega)).trans f0, (s5_N _ _ _ _ _ (by omega)).trans f1, (s5_T _ _ _ _ _ (by omega)).trans f2, (s5_N _ _ _ _ _ (by omega)).trans f3, (s5_P _ _ _ _ _ (Or.inl (by omega)) (by omega)).trans f4, (s5_T _ _ _ _ _ (by omega)).trans f5, (s5_N _ _ _ _ _ (by omega)).trans f6, (s5_P _ _ _ _ _ (Or.inl (by omega)) (by omega)).trans f7, (s5_T _ _ _ _ _ (by omega)).trans f8, (s5_T _ _ _ _ _ (by omega)).trans f9, (s5_N _ _ _ _ _ (by omega)).trans f10, (s5_P _ _ _ _ _ (Or.inl (by omega)) (by omega)).trans f11, (s5_I _ _ _ _ _ (by omega)).trans f12, (s5_P _ _ _ _ _ (Or.inl (by omega)) (by omega)).trans f13, (s5_T _ _ _ _ _ (by omega)).trans f14, (s5_N _ _ _ _ _ (by omega)).trans f15, (s5_P _ _ _ _ _ (Or.inl (by omega)) (by omega)).trans f16, s5_T1 w4 12 4 4 a (by omega), s5_N1 w4 12 4 4 a (by omega), s5_P1 w4 12 4 4 a (by omega)⟩ (fun w5 hy => ?_)
  obtain ⟨hz, hn, hold, f0, f1, f2, f3, f4, f5, f6, f7, f8, f9, f10, f11, f12, f13, f14, f15, f16, f17, f18, f19⟩ := hy
  refine r_go (fun kk => e_aload_n 0 dX0_init_49 rfl kk) ?_
  refine r_go (fun kk => e_sipush (v := nI 200) dX0_init_50 (by decide) kk) ?_
  refine r_go (fun kk => e_newa (t := 12) (N := 200) dX0_init_53 ac_int ⟨by omega, rfl⟩ (by decide) rfl (by omega) kk) ?_
  refine r_go (fun kk => e_putF (ci := 0) (k := 5) (some (zz w5)) dX0_init_55 rfl (by decide) fl_X0_37m rfl rfl rfl rfl ⟨rfl, rfl⟩ rfl ((nw_T (by omega)).trans f0) kk) ?_
  refine r_gen (fun mm => zz mm = z + 7 ∧ nn mm = nn m + 858 ∧ (∀ q, q < z → q ≠ a → Eqa m mm q ∧ gT mm q = gT m q ∧ gN mm q = gN m q) ∧ gT mm (a) = 1 ∧ gN mm (a) = gN m a ∧ gT mm (z + 0) = 17 ∧ gN mm (z + 0) = 200 ∧ gP mm 0 (a) = some (z + 0) ∧ gT mm (z + 1) = 16 ∧ gN mm (z + 1) = 32 ∧ gP mm 1 (a) = some (z + 1) ∧ gT mm (z + 2) = 4 ∧ gT mm (z + 3) = 12 ∧ gN mm (z + 3) = 320 ∧ gP mm 61 (z + 2) = some (z + 3) ∧ gI mm 60 (z + 2) = nI 0 ∧ gP mm 2 (a) = some (z + 2) ∧ gT mm (z + 4) = 12 ∧ gN mm (z + 4) = 100 ∧ gP mm 3 (a) = some (z + 4) ∧ gT mm (z + 5) = 12 ∧ gN mm (z + 5) = 4 ∧ gP mm 4 (a) = some (z + 5) ∧ gT mm (z + 6) = 12 ∧ gN mm (z + 6) = 200 ∧ gP mm 5 (a) = some (z + 6)) ⟨(s5_z w5 12 200 5 a).trans (by omega), (s5_n w5 12 200 5 a).trans (by omega), fun q h1 h2 => ⟨(hold q h1 h2).1.tr (s5_eqa (by omega) h2), (s5_T _ _ _ _ _ (by omega)).trans (hold q h1 h2).2.1, (s5_N _ _ _ _ _ (by omega)).trans (hold q h1 h2).2.2⟩, (s5_T _ _ _ _ _ (by omega)).trans f0, (s5_N _ _ _ _ _ (by omega)).trans f1, (s5_T _ _ _ _ _ (by omega)).trans f2, (s5_N _ _ _ _ _ (by omega)).trans f3, (s5_P _ _ _ _ _ (Or.inl (by omega)) (by omega)).trans f4, (s5_T _ _ _ _ _ (by omega)).trans f5, (s5_N _ _ _ _ _ (by omega)).trans f6, (s5_P _ _ _ _ _ (Or.inl (by omega)) (by omega)).trans f7, (s5_T _ _ _ _ _ (by omega)).trans f8, (s5_T _ _ _ _ _ (by omega)).trans f9, (s5_N _ _ _ _ _ (by omega)).trans f10, (s5_P _ _ _ _ _ (Or.inl (by omega)) (by omega)).trans f11, (s5_I _ _ _ _ _ (by omega)).trans f12, (s5_P _ _ _ _ _ (Or.inl (by omega)) (by omega)).trans f13, (s5_T _ _ _ _ _ (by omega)).trans f14, (s5_N _ _ _ _ _ (by omega)).trans f15, (s5_P _ _ _ _ _ (Or.inl (by omega)) (by omega)).trans f16, (s5_T _ _ _ _ _ (by omega)).trans f17, (s5_N _ _ _ _ _ (by omega)).trans f18, (s5_P _ _ _ _ _ (Or.inl (by omega)) (by omega)).trans f19, s5_T1 w5 12 200 5 a (by omega), s5_N1 w5 12 200 5 a (by omega), s5_P1 w5 12 200 5 a (by omega)⟩ (fun w6 hy => ?_)
  obtain ⟨hz, hn, hold, f0, f1, f2, f3, f4, f5, f6, f7, f8, f9, f10, f11, f12, f13, f14, f15, f16, f17, f18, f19, f20, f21, f22⟩ := hy
  refine r_go (fun kk => e_aload_n 0 dX0_init_58 rfl kk) ?_
  refine r_go (fun kk => e_bipush (v := nI 12) dX0_init_59 (by decide) kk) ?_
  refine r_go (fun kk => e_newa (t := 12) (N := 12) dX0_init_61 ac_int ⟨by omega, rfl⟩ (by decide) rfl (by omega) kk) ?_
  refine r_go (fun kk => e_putF (ci := 0) (k := 6) (some (zz w6)) dX0_init_63 rfl (by decide) fl_X0_40m rfl rfl rfl rfl ⟨rfl, rfl⟩ rfl ((nw_T (by omega)).trans f0) kk) ?_
  refine r_gen (fun mm => zz mm = z + 8 ∧ nn mm = nn m + 870 ∧ (∀ q, q < z → q ≠ a → Eqa m mm q ∧ gT mm q = gT m q ∧ gN mm q = gN m q) ∧ gT mm (a) = 1 ∧ gN mm (a) = gN m a ∧ gT mm (z + 0) = 17 ∧ gN mm (z + 0) = 200 ∧ gP mm 0 (a) = some (z + 0) ∧ gT mm (z + 1) = 16 ∧ gN mm (z + 1) = 32 ∧ gP mm 1 (a) = some (z + 1) ∧ gT mm (z + 2) = 4 ∧ gT mm (z + 3) = 12 ∧ gN mm (z + 3) = 320 ∧ gP mm 61 (z + 2) = some (z + 3) ∧ gI mm 60 (z + 2) = nI 0 ∧ gP mm 2 (a) = some (z + 2) ∧ gT mm (z + 4) = 12 ∧ gN mm (z + 4) = 100 ∧ gP mm 3 (a) = some (z + 4) ∧ gT mm (z + 5) = 12 ∧ gN mm (z + 5) = 4 ∧ gP mm 4 (a) = some (z + 5) ∧ gT mm (z + 6) = 12 ∧ gN mm (z + 6) = 200 ∧ gP mm 5 (a) = some (z + 6) ∧ gT mm (z + 7) = 12 ∧ gN mm (z + 7) = 12 ∧ gP mm 6 (a) = some (z + 7) ∧ aI mm (z + 7) = (fun _ => 0)) ⟨(s5_z w6 12 12 6 a).trans (by omega), (s5_n w6 12 12 6 a).trans (by omega), fun q h1 h2 => ⟨(hold q h1 h2).1.tr (s5_eqa (by omega) h2), (s5_T _ _ _ _ _ (by omega)).trans (hold q h1 h2).2.1, (s5_N _ _ _ _ _ (by omega)).trans (hold q h1 h2).2.2⟩, (s5_T _ _ _ _ _ (by omega)).trans f0, (s5_N _ _ _ _ _ (by omega)).trans f1, (s5_T _ _ _ _ _ (by omega)).trans f2, (s5_N _ _ _ _ _ (by omega)).trans f3, (s5_P _ _ _ _ _ (Or.inl (by omega)) (by omega)).trans f4, (s5_T _ _ _ _ _ (by omega)).trans f5, (s5_N _ _ _ _ _ (by omega)).trans f6, (s5_P _ _ _ _ _ (Or.inl (by omega)) (by omega)).trans f7, (s5_T _ _ _ _ _ (by omega)).trans f8, (s5_T _ _ _ _ _ (by omega)).trans f9, (s5_N _ _ _ _ _ (by omega)).trans f10, (s5_P _ _ _ _ _ (Or.inl (by omega)) (by omega)).trans f11, (s5_I _ _ _ _ _ (by omega)).trans f12, (s5_P _ _ _ _ _ (Or.inl (by omega)) (by omega)).trans f13, (s5_T _ _ _ _ _ (by omega)).trans f14, (s5_N _ _ _ _ _ (by omega)).trans f15, (s5_P _ _ _ _ _ (Or.inl (by omega)) (by omega)).trans f16, (s5_T _ _ _ _ _ (by omega)).trans f17, (s5_N _ _ _ _ _ (by omega)).trans f18, (s5_P _ _ _ _ _ (Or.inl (by omega)) (by omega)).trans f19, (s5_T _ _ _ _ _ (by omega)).trans f20, (s5_N _ _ _ _ _ (by omega)).trans f21, (s5_P _ _ _ _ _ (Or.inl (by omega)) (by omega)).trans f22, s5_T1 w6 12 12 6 a (by omega), s5_N1 w6 12 12 6 a (by omega), s5_P1 w6 12 12 6 a (by omega), s5_aI1 w6 12 12 6 a (by omega)⟩ (fun w7 hy => ?_)
  obtain ⟨hz, hn, hold, f0, f1, f2, f3, f4, f5, f6, f7, f8, f9, f10, f11, f12, f13, f14, f15, f16, f17, f18, f19, f20, f21, f22, f23, f24, f25, f26⟩ := hy
  refine r_go (fun kk => e_aload_n 0 dX0_init_66 rfl kk) ?_
  refine r_go (fun kk => e_ic (nI 0) dX0_init_67 (by decide) kk) ?_
  refine r_go (fun kk => e_putI (ci := 0) (k := 7) dX0_init_68 fl_X0_43 rfl (fun q h => by cases h; rfl) ⟨rfl, rfl⟩ f0 kk) ?_
  refine r_gen (fun mm => zz mm = z + 8 ∧ nn mm = nn m + 870 ∧ (∀ q, q < z → q ≠ a → Eqa m mm q ∧ gT mm q = gT m q ∧ gN mm q = gN m q) ∧ gT mm (a) = 1 ∧ gN mm (a) = gN m a ∧ gT mm (z + 0) = 17 ∧ gN mm (z + 0) = 200 ∧ gP mm 0 (a) = some (z + 0) ∧ gT mm (z + 1) = 16 ∧ gN mm (z + 1) = 32 ∧ gP mm 1 (a) = some (z + 1) ∧ gT mm (z + 2) = 4 ∧ gT mm (z + 3) = 12 ∧ gN mm (z + 3) = 320 ∧ gP mm 61 (z + 2) = some (z + 3) ∧ gI mm 60 (z + 2) = nI 0 ∧ gP mm 2 (a) = some (z + 2) ∧ gT mm (z + 4) = 12 ∧ gN mm (z + 4) = 100 ∧ gP mm 3 (a) = some (z + 4) ∧ gT mm (z + 5) = 12 ∧ gN mm (z + 5) = 4 ∧ gP mm 4 (a) = some (z + 5) ∧ gT mm (z + 6) = 12 ∧ gN mm (z + 6) = 200 ∧ gP mm 5 (a) = some (z + 6) ∧ gT mm (z + 7) = 12 ∧ gN mm (z + 7) = 12 ∧ gP mm 6 (a) = some (z + 7) ∧ aI mm (z + 7) = (fun _ => 0) ∧ gI mm 7 (a) = nI 0) ⟨hz, hn, fun q h1 h2 => ⟨(hold q h1 h2).1.tr (eqa_sI h2), (hold q h1 h2).2⟩, f0, f1, f2, f3, f4, f5, f6, f7, f8, f9, f10, f11, (gI_nf (by omega)).trans f12, f13, f14, f15, f16, f17, f18, f19, f20, f21, f22, f23, f24, f25, f26, u2_eq (gI w7) 7 a _⟩ (fun w8 hy => ?_)
  obtain ⟨hz, hn, hold, f0, f1, f2, f3, f4, f5, f6, f7, f8, f9, f10, f11, f12, f13, f14, f15, f16, f17, f18, f19, f20, f21, f22, f23, f24, f25, f26, f27⟩ := hy
  refine r_go (fun kk => e_aload_n 0 dX0_init_71 rfl kk) ?_
  refine r_go (fun kk => e_ic (nI 0) dX0_init_72 (by decide) kk) ?_
  refine r_go (fun kk => e_putI (ci := 0) (k := 8) dX0_init_73 fl_X0_47 rfl (fun q h => by cases h; rfl) ⟨rfl, rfl⟩ f0 kk) ?_
  refine r_gen (fun mm => zz mm = z + 8 ∧ nn mm = nn m + 870 ∧ (∀ q, q < z → q ≠ a → Eqa m mm q ∧ gT mm q = gT m q ∧ gN mm q = gN m q) ∧ gT mm (a) = 1 ∧ gN mm (a) = gN m a ∧ gT mm (z + 0) = 17 ∧ gN mm (z + 0) = 200 ∧ gP mm 0 (a) = some (z + 0) ∧ gT mm (z + 1) = 16 ∧ gN mm (z + 1) = 32 ∧ gP mm 1 (a) = some (z + 1) ∧ gT mm (z + 2) = 4 ∧ gT mm (z + 3) = 12 ∧ gN mm (z + 3) = 320 ∧ gP mm 61 (z + 2) = some (z + 3) ∧ gI mm 60 (z + 2) = nI 0 ∧ gP mm 2 (a) = some (z + 2) ∧ gT mm (z + 4) = 12 ∧ gN mm (z + 4) = 100 ∧ gP mm 3 (a) = some (z + 4) ∧ gT mm (z + 5) = 12 ∧ gN mm (z + 5) = 4 ∧ gP mm 4 (a) = some (z + 5) ∧ gT mm (z + 6) = 12 ∧ gN mm (z + 6) = 200 ∧ gP mm 5 (a) = some (z + 6) ∧ gT mm (z + 7) = 12 ∧ gN mm (z + 7) = 12 ∧ gP mm 6 (a) = some (z + 7) ∧ aI mm (z + 7) = (fun _ => 0) ∧ gI mm 7 (a) = nI 0 ∧ gI mm 8 (a) = nI 0) ⟨hz, hn, fun q h1 h2 => ⟨(hold q h1 h2).1.tr (eqa_sI h2), (hold q h1 h2).2⟩, f0, f1, f2, f3, f4, f5, f6, f7, f8, f9, f10, f11, (gI_nf (by omega)).trans f12, f13, f14, f15, f16, f17, f18, f19, f20, f21, f22, f23, f24, f25, f26, (gI_nf (by omega)).trans f27, u2_eq (gI w8) 8 a _⟩ (fun w9 hy => ?_)
  obtain ⟨hz, hn, hold, f0, f1, f2, f3, f4, f5, f6, f7, f8, f9, f10, f11, f12, f13, f14, f15, f16, f17, f18, f19, f20, f21, f22, f23, f24, f25, f26, f27, f28⟩ := hy
  refine r_go (fun kk => e_aload_n 0 dX0_init_76 rfl kk) ?_
  refine r_go (fun kk => e_ic (nI 1) dX0_init_77 (by decide) kk) ?_
  refine r_go (fun kk => e_putI (ci := 0) (k := 9) dX0_init_78 fl_X0_50 rfl (fun q h => by cases h; rfl) ⟨rfl, rfl⟩ f0 kk) ?_
  refine r_gen (fun mm => zz mm = z + 8 ∧ nn mm = nn m + 870 ∧ (∀ q, q < z → q ≠ a → Eqa m mm q ∧ gT mm q = gT m q ∧ gN mm q = gN m q) ∧ gT mm (a) = 1 ∧ gN mm (a) = gN m a ∧ gT mm (z + 0) = 17 ∧ gN mm (z + 0) = 200 ∧ gP mm 0 (a) = some (z + 0) ∧ gT mm (z + 1) = 16 ∧ gN mm (z + 1) = 32 ∧ gP mm 1 (a) = some (z + 1) ∧ gT mm (z + 2) = 4 ∧ gT mm (z + 3) = 12 ∧ gN mm (z + 3) = 320 ∧ gP mm 61 (z + 2) = some (z + 3) ∧ gI mm 60 (z + 2) = nI 0 ∧ gP mm 2 (a) = some (z + 2) ∧ gT mm (z + 4) = 12 ∧ gN mm (z + 4) = 100 ∧ gP mm 3 (a) = some (z + 4) ∧ gT mm (z + 5) = 12 ∧ gN mm (z + 5) = 4 ∧ gP mm 4 (a) = some (z + 5) ∧ gT mm (z + 6) = 12 ∧ gN mm (z + 6) = 200 ∧ gP mm 5 (a) = some (z + 6) ∧ gT mm (z + 7) = 12 ∧ gN mm (z + 7) = 12 ∧ gP mm 6 (a) = some (z + 7) ∧ aI mm (z + 7) = (fun _ => 0) ∧ gI mm 7 (a) = nI 0 ∧ gI mm 8 (a) = nI 0 ∧ gI mm 9 (a) = nI 1) ⟨hz, hn, fun q h1 h2 => ⟨(hold q h1 h2).1.tr (eqa_sI h2), (hold q h1 h2).2⟩, f0, f1, f2, f3, f4, f5, f6, f7, f8, f9, f10, f11, (gI_nf (by omega)).trans f12, f13, f14, f15, f16, f17, f18, f19, f20, f21, f22, f23, f24, f25, f26, (gI_nf (by omega)).trans f27, (gI_nf (by omega)).trans f28, u2_eq (gI w9) 9 a _⟩ (fun w10 hy => ?_)
  obtain ⟨hz, hn, hold, f0, f1, f2, f3, f4, f5, f6, f7, f8, f9, f10, f11, f12, f13, f14, f15, f16, f17, f18, f19, f20, f21, f22, f23, f24, f25, f26, f27, f28, f29⟩ := hy
  refine r_go (fun kk => e_aload_n 0 dX0_init_81 rfl kk) ?_
  refine r_go (fun kk => e_ic (nI 0) dX0_init_82 (by decide) kk) ?_
  refine r_go (fun kk => e_putI (ci := 0) (k := 10) dX0_init_83 fl_X0_53 rfl (fun q h => by cases h; rfl) ⟨rfl, rfl⟩ f0 kk) ?_
  refine r_gen (fun mm => zz mm = z + 8 ∧ nn mm = nn m + 870 ∧ (∀ q, q < z → q ≠ a → Eqa m mm q ∧ gT mm q = gT m q ∧ gN mm q = gN m q) ∧ gT mm (a) = 1 ∧ gN mm (a) = gN m a ∧ gT mm (z + 0) = 17 ∧ gN mm (z + 0) = 200 ∧ gP mm 0 (a) = some (z + 0) ∧ gT mm (z + 1) = 16 ∧ gN mm (z + 1) = 32 ∧ gP mm 1 (a) = some (z + 1) ∧ gT mm (z + 2) = 4 ∧ gT mm (z + 3) = 12 ∧ gN mm (z + 3) = 320 ∧ gP mm 61 (z + 2) = some (z + 3) ∧ gI mm 60 (z + 2) = nI 0 ∧ gP mm 2 (a) = some (z + 2) ∧ gT mm (z + 4) = 12 ∧ gN mm (z + 4) = 100 ∧ gP mm 3 (a) = some (z + 4) ∧ gT mm (z + 5) = 12 ∧ gN mm (z + 5) = 4 ∧ gP mm 4 (a) = some (z + 5) ∧ gT mm (z + 6) = 12 ∧ gN mm (z + 6) = 200 ∧ gP mm 5 (a) = some (z + 6) ∧ gT mm (z + 7) = 12 ∧ gN mm (z + 7) = 12 ∧ gP mm 6 (a) = some (z + 7) ∧ aI mm (z + 7) = (fun _ => 0) ∧ gI mm 7 (a) = nI 0 ∧ gI mm 8 (a) = nI 0 ∧ gI mm 9 (a) = nI 1 ∧ gI mm 10 (a) = nI 0) ⟨hz, hn, fun q h1 h2 => ⟨(hold q h1 h2).1.tr (eqa_sI h2), (hold q h1 h2).2⟩, f0, f1, f2, f3, f4, f5, f6, f7, f8, f9, f10, f11, (gI_nf (by omega)).trans f12, f13, f14, f15, f16, f17, f18, f19, f20, f21, f22, f23, f24, f25, f26, (gI_nf (by omega)).trans f27, (gI_nf (by omega)).trans f28, (gI_nf (by omega)).trans f29, u2_eq (gI w10) 10 a _⟩ (fun w11 hy => ?_)
  obtain ⟨hz, hn, hold, f0, f1, f2, f3, f4, f5, f6, f7, f8, f9, f10, f11, f12, f13, f14, f15, f16, f17, f18, f19, f20, f21, f22, f23, f24, f25, f26, f27, f28, f29, f30⟩ := hy
  refine r_go (fun kk => e_aload_n 0 dX0_init_86 rfl kk) ?_
  refine r_go (fun kk => e_ic (nI 0) dX0_init_87 (by decide) kk) ?_
  refine r_go (fun kk => e_putI (ci := 0) (k := 11) dX0_init_88 fl_X0_56 rfl (fun q h => by cases h; rfl) ⟨rfl, rfl⟩ f0 kk) ?_
  refine r_gen (fun mm => zz mm = z + 8 ∧ nn mm = nn m + 870 ∧ (∀ q, q < z → q ≠ a → Eqa m mm q ∧ gT mm q = gT m q ∧ gN mm q = gN m q) ∧ gT mm (a) = 1 ∧ gN mm (a) = gN m a ∧ gT mm (z + 0) = 17 ∧ gN mm (z + 0) = 200 ∧ gP mm 0 (a) = some (z + 0) ∧ gT mm (z + 1) = 16 ∧ gN mm (z + 1) = 32 ∧ gP mm 1 (a) = some (z + 1) ∧ gT mm (z + 2) = 4 ∧ gT mm (z + 3) = 12 ∧ gN mm (z + 3) = 320 ∧ gP mm 61 (z + 2) = some (z + 3) ∧ gI mm 60 (z + 2) = nI 0 ∧ gP mm 2 (a) = some (z + 2) ∧ gT mm (z + 4) = 12 ∧ gN mm (z + 4) = 100 ∧ gP mm 3 (a) = some (z + 4) ∧ gT mm (z + 5) = 12 ∧ gN mm (z + 5) = 4 ∧ gP mm 4 (a) = some (z + 5) ∧ gT mm (z + 6) = 12 ∧ gN mm (z + 6) = 200 ∧ gP mm 5 (a) = some (z + 6) ∧ gT mm (z + 7) = 12 ∧ gN mm (z + 7) = 12 ∧ gP mm 6 (a) = some (z + 7) ∧ aI mm (z + 7) = (fun _ => 0) ∧ gI mm 7 (a) = nI 0 ∧ gI mm 8 (a) = nI 0 ∧ gI mm 9 (a) = nI 1 ∧ gI mm 10 (a) = nI 0 ∧ gI mm 11 (a) = nI 0) ⟨hz, hn, fun q h1 h2 => ⟨(hold q h1 h2).1.tr (eqa_sI h2), (hold q h1 h2).2⟩, f0, f1, f2, f3, f4, f5, f6, f7, f8, f9, f10, f11, (gI_nf (by omega)).trans f12, f13, f14, f15, f16, f17, f18, f19, f20, f21, f22, f23, f24, f25, f26, (gI_nf (by omega)).trans f27, (gI_nf (by omega)).trans f28, (gI_nf (by omega)).trans f29, (gI_nf (by omega)).trans f30, u2_eq (gI w11) 11 a _⟩ (fun w12 hy => ?_)
  obtain ⟨hz, hn, hold, f0, f1, f2, f3, f4, f5, f6, f7, f8, f9, f10, f11, f12, f13, f14, f15, f16, f17, f18, f19, f20, f21, f22, f23, f24, f25, f26, f27, f28, f29, f30, f31⟩ := hy
  refine r_go (fun kk => e_ic (nI 0) dX0_init_91 (by decide) kk) ?_
  refine r_go (fun kk => e_istore_n (lv' := [(1, .int (nI 0)), (0, .ref a)]) dX0_init_92 (by decide) rfl kk) ?_
  refine r_go (fun kk => e_sub [0, 1] rfl kk) ?_
  exact L1 200 0 w12 (by omega) ⟨hz, hn, hold, f0, f1, f2, f3, f4, f5, f6, f7, f8, f9, f10, f11, f12, f13, f14, f15, f16, f17, f18, f19, f20, f21, f22, f23, f24, f25, f26, f27, f28, f29, f30, f31, fun t ht => absurd ht (Nat.not_lt_zero _)⟩
