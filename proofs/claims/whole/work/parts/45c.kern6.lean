/-! a row is made anew, longer -/
def gwY (Y : YY) (r0 N z : Nat) : YY := (fun r => if r = r0 then z else Y.1 r, Y.2.1, fun r => if r = r0 then Y.2.2.1 r0 + N else Y.2.2.1 r, fun a => if a = z then Y.2.1 + r0 else Y.2.2.2 a)
def gwM (m : Mem) (ty N : Nat) (g : Nat → Int32) (fw a : Nat) : Mem := sP (sRI (nw m ty N) (zz m) g) fw a (some (zz m))
/-- the addresses that stay -/
def Sm (Y Y1 : YY) : Prop := ∀ r, (r < 4 ∨ (5 ≤ r ∧ r < 241)) → Y1.1 r = Y.1 r
theorem Sm.rf (Y : YY) : Sm Y Y := fun _ _ => rfl
theorem Sm.tr {Y Y1 Y2 : YY} (h : Sm Y Y1) (k : Sm Y1 Y2) : Sm Y Y2 := fun r hr => (k r hr).trans (h r hr)
theorem sumN_up (g : Nat → Nat) (b r0 N : Nat) : ∀ n, sumN (fun p => if b + p = r0 then g r0 + N else g (b + p)) n = sumN (fun p => g (b + p)) n + (if b ≤ r0 ∧ r0 < b + n then N else 0) := by
  intro n
  induction n with
  | zero =>
    rw [if_neg (by omega)]
    rfl
  | succ n ih =>
    rw [sumN, sumN, ih]
    by_cases h : b + n = r0
    · rw [if_pos h, if_neg (by omega), if_pos (by omega), h]
      omega
    · rw [if_neg h]
      by_cases h2 : b ≤ r0 ∧ r0 < b + n
      · rw [if_pos h2, if_pos (by omega)]
        omega
      · rw [if_neg h2, if_neg (by omega)]
        omega
theorem pot_up (g : Nat → Nat) {r0 N : Nat} (h : r0 = 4 ∨ (241 ≤ r0 ∧ r0 < 473)) : pot (fun r => if r = r0 then g r0 + N else g r) = pot g + N := by
  unfold pot
  have e1 := sumN_up g 241 r0 N 32
  have e2 := sumN_up g 273 r0 N 200
  rw [e1, e2]
  dsimp only
  by_cases h4 : r0 = 4
  · subst h4
    rw [if_pos rfl, if_neg (by omega), if_neg (by omega)]
    omega
  · rw [if_neg (show ¬ 4 = r0 by omega)]
    by_cases h5 : r0 < 273
    · rw [if_pos (by omega), if_neg (by omega)]
      omega
    · rw [if_neg (by omega), if_pos (by omega)]
      omega
section GW
variable {m : Mem} {ty N fw a0 : Nat} {g : Nat → Int32}
theorem gw_T {a : Nat} (h : a < zz m) : gT (gwM m ty N g fw a0) a = gT m a := vu_ne _ _ (by omega)
theorem gw_N {a : Nat} (h : a < zz m) : gN (gwM m ty N g fw a0) a = gN m a := vu_ne _ _ (by omega)
theorem gw_I {a : Nat} (h : a < zz m) (f : Nat) : gI (gwM m ty N g fw a0) f a = gI m f a := by
  show z2 (gI m) (zz m) 0 f a = gI m f a
  unfold z2
  rw [if_neg (by omega)]
theorem gw_L {a : Nat} (h : a < zz m) (f : Nat) : gL (gwM m ty N g fw a0) f a = gL m f a := by
  show z2 (gL m) (zz m) 0 f a = gL m f a
  unfold z2
  rw [if_neg (by omega)]
theorem gw_P {a : Nat} (h : a < zz m) {f : Nat} (hf : f ≠ fw ∨ a ≠ a0) : gP (gwM m ty N g fw a0) f a = gP m f a := by
  show u2 (z2 (gP m) (zz m) none) fw a0 (some (zz m)) f a = gP m f a
  have e : z2 (gP m) (zz m) none f a = gP m f a := by
    unfold z2
    rw [if_neg (by omega)]
  rcases hf with q | q
  · rw [u2_nf _ _ q, e]
  · rw [u2_na _ _ q, e]
theorem gw_Pn : gP (gwM m ty N g fw a0) fw a0 = some (zz m) := u2_eq _ _ _ _
theorem gw_aI {a : Nat} (h : a < zz m) : aI (gwM m ty N g fw a0) a = aI m a := by
  show va_up (zr (aI m) (zz m) 0) (zz m) g a = aI m a
  rw [vu_ne _ _ (by omega)]
  funext i
  unfold zr
  rw [if_neg (by omega)]
theorem gw_aL {a : Nat} (h : a < zz m) : aL (gwM m ty N g fw a0) a = aL m a := by
  show zr (aL m) (zz m) 0 a = aL m a
  funext i
  unfold zr
  rw [if_neg (by omega)]
theorem gw_aP {a : Nat} (h : a < zz m) : aP (gwM m ty N g fw a0) a = aP m a := by
  show zr (aP m) (zz m) none a = aP m a
  funext i
  unfold zr
  rw [if_neg (by omega)]
theorem gw_aIn : aI (gwM m ty N g fw a0) (zz m) = g := vu_eq _ _ _
theorem gw_Tn : gT (gwM m ty N g fw a0) (zz m) = ty := vu_eq _ _ _
theorem gw_Nn : gN (gwM m ty N g fw a0) (zz m) = N := vu_eq _ _ _
theorem gw_eqa {a : Nat} (h : a < zz m) (hf : a ≠ a0) : Eqa m (gwM m ty N g fw a0) a := ⟨gw_I h, gw_L h, fun _ => gw_P h (Or.inr hf), gw_aI h, gw_aL h, gw_aP h⟩
end GW
theorem gY_e (Y : YY) (r0 N z : Nat) : (gwY Y r0 N z).1 r0 = z := if_pos rfl
theorem gY_n (Y : YY) {r0 N z r : Nat} (h : r ≠ r0) : (gwY Y r0 N z).1 r = Y.1 r := if_neg h
theorem gY_ge (Y : YY) (r0 N z : Nat) : (gwY Y r0 N z).2.2.1 r0 = Y.2.2.1 r0 + N := if_pos rfl
theorem gY_gn (Y : YY) {r0 N z r : Nat} (h : r ≠ r0) : (gwY Y r0 N z).2.2.1 r = Y.2.2.1 r := if_neg h
theorem gY_oe (Y : YY) (r0 N z : Nat) : (gwY Y r0 N z).2.2.2 z = Y.2.1 + r0 := if_pos rfl
theorem gY_on (Y : YY) {r0 N z a : Nat} (h : a ≠ z) : (gwY Y r0 N z).2.2.2 a = Y.2.2.2 a := if_neg h
section GW2
variable {Z : Mem × YY} {m : Mem} {Y : YY} {ρ n : Nat} {kf : KF} {vf : VF} {r0 rw fw ty N : Nat} {g : Nat → Int32}
def GC (m : Mem) (Y : YY) (r0 rw fw ty N : Nat) (g : Nat → Int32) : Prop :=
  (r0 = 4 ∧ rw = 3 ∧ fw = 61 ∧ ty = 12 ∧ gN m (Y.1 4) ≤ N ∧ LC N (Y.2.2.1 4 + N) ∧ ∀ i, i < gN m (Y.1 4) → g i = aI m (Y.1 4) i) ∨
  (∃ p, p < 32 ∧ r0 = 241 + p ∧ rw = 209 + p ∧ fw = 41 ∧ ty = 11 ∧ gN m (Y.1 (241 + p)) ≤ N ∧ LB N (Y.2.2.1 (241 + p) + N) ∧ (∀ i, i < gN m (Y.1 (241 + p)) → g i = aI m (Y.1 (241 + p)) i) ∧ ∀ i, ∃ y : Int8, g i = y.toInt32) ∨
  ∃ t, t < 200 ∧ r0 = 273 + t ∧ rw = 9 + t ∧ fw = 97 ∧ ty = 14 ∧ N = 127 ∧ gP m 97 (Y.1 (9 + t)) = none
theorem GC.f (hc : GC m Y r0 rw fw ty N g) : rw < 241 ∧ rw ≠ 0 ∧ (r0 = 4 ∨ (241 ≤ r0 ∧ r0 < 473)) ∧ 1 ≤ fw ∧ fw > 6 ∧ (r0 < 273 → ty = tyR r0) := by
  rcases hc with ⟨rfl, rfl, rfl, rfl, -⟩ | ⟨p, hp, rfl, rfl, rfl, rfl, -⟩ | ⟨t, ht, rfl, rfl, rfl, rfl, -⟩
  · exact ⟨by omega, by omega, by omega, by omega, by omega, fun _ => rfl⟩
  · refine ⟨by omega, by omega, by omega, by omega, by omega, fun _ => ?_⟩
    rw [tyR, if_neg (by omega), if_neg (by omega), if_neg (by omega), if_neg (by omega), if_neg (by omega), if_neg (by omega), if_neg (by omega)]
  · exact ⟨by omega, by omega, by omega, by omega, by omega, fun q => by omega⟩
theorem GC.n16 (hc : GC m Y r0 rw fw ty N g) : 16 ≤ N := by
  rcases hc with ⟨-, -, -, -, -, q, -⟩ | ⟨p, -, -, -, -, -, -, q, -⟩ | ⟨t, -, -, -, -, -, q, -⟩
  · unfold LC at q
    omega
  · unfold LB at q
    omega
  · omega
theorem gw_FK (hT : KT m Y) (h : FK Z m Y) (hN : 1 ≤ N) (hc : GC m Y r0 rw fw ty N g) : FK Z (gwM m ty N g fw (Y.1 rw)) (gwY Y r0 N (zz m)) := by
  obtain ⟨f1, f2, f3, f4, f5, f6⟩ := hc.f
  have ow := hT.ow (r := rw) (by omega)
  have hp := pot_up Y.2.2.1 (N := N) f3
  have hz := h.1
  refine ⟨Nat.le_trans hz (Nat.le_succ _), h.2.1, fun a ha => ?_, ?_, ?_, fun a c hlt hac h1 h2 j => ?_, fun a h1 h2 => ?_⟩
  · obtain ⟨q1, q2, q3, q4⟩ := h.2.2.1 a ha
    have hlt : a < zz m := by omega
    refine ⟨(gY_on Y (by omega)).trans q1, (gw_T hlt).trans q2, (gw_N hlt).trans q3, fun hO => (q4 hO).tr (gw_eqa hlt (fun e => hO ?_))⟩
    subst e
    exact h.own ow (by omega) ha
  · show nn m + N + pot Z.2.2.2.1 = nn Z.1 + pot (fun r => if r = r0 then Y.2.2.1 r0 + N else Y.2.2.1 r)
    have := h.2.2.2.1
    omega
  · show 16 * (zz m + 1) + pot Z.2.2.2.1 ≤ 16 * zz Z.1 + pot (fun r => if r = r0 then Y.2.2.1 r0 + N else Y.2.2.1 r)
    have := h.2.2.2.2.1
    have h16 := hc.n16
    omega
  · by_cases e : a = zz m
    · subst e
      rw [gY_oe] at hac
      have hac : Y.2.1 + r0 = Y.2.1 + c := hac
      rw [gw_aIn]
      rcases hc with ⟨rfl, -⟩ | ⟨p, hp, rfl, -, -, -, -, -, -, q⟩ | ⟨t, ht, rfl, -⟩
      · omega
      · exact q j
      · omega
    · rw [gY_on Y e] at hac
      have hac : Y.2.2.2 a = Y.2.1 + c := hac
      have hlt2 : a < zz m := by
        have : a < zz m + 1 := hlt
        omega
      have old := h.2.2.2.2.2.1 a c hlt2 hac h1 h2 j
      obtain ⟨y, hy⟩ := old
      refine ⟨y, ?_⟩
      rw [← hy]
      show va_up (zr (aI m) (zz m) 0) (zz m) g a j = _
      rw [vu_ne _ _ e]
      unfold zr
      rw [if_neg e]
  · by_cases e : a = zz m
    · subst e
      rw [gY_oe, h.2.1]
      exact ⟨Nat.le_add_right _ _, by omega⟩
    · rw [gY_on Y e]
      have h2 : a < zz m + 1 := h2
      exact h.2.2.2.2.2.2 a h1 (by omega)
theorem gw_KT (hT : KT m Y) (hc : GC m Y r0 rw fw ty N g) : KT (gwM m ty N g fw (Y.1 rw)) (gwY Y r0 N (zz m)) := by
  obtain ⟨f1, f2, f3, f4, f5, f6⟩ := hc.f
  have z : ∀ r, r < 273 → Y.1 r < zz m := fun r hr => (hT.1 r hr).2.2
  obtain ⟨t1, t2, t3, t4, t5, t6⟩ := id hT
  refine ⟨fun r hr => ?_, ?_, ?_, fun p hp => ?_, fun t ht => ?_, ?_⟩
  · by_cases e : r = r0
    · subst e
      rw [gY_e, gY_oe, gw_Tn, f6 hr]
      exact ⟨rfl, rfl, Nat.lt_succ_self _⟩
    · have := z r hr
      rw [gY_n Y e, gY_on Y (by omega), gw_T this]
      exact ⟨(t1 r hr).1, (t1 r hr).2.1, Nat.lt_succ_of_lt this⟩
  · rw [gY_n Y (by omega), gY_n Y (by omega), gY_n Y (by omega), gY_n Y (by omega), gY_n Y (by omega), gY_n Y (by omega), gw_N (z 1 (by omega)), gw_N (z 2 (by omega)), gw_N (z 5 (by omega)), gw_N (z 6 (by omega)), gw_N (z 7 (by omega)), gw_N (z 8 (by omega))]
    exact t2
  · rw [gY_n Y (r := 0) (by omega), gY_n Y (r := 1) (by omega), gY_n Y (r := 2) (by omega), gY_n Y (r := 3) (by omega), gY_n Y (r := 5) (by omega), gY_n Y (r := 6) (by omega), gY_n Y (r := 7) (by omega), gY_n Y (r := 8) (by omega)]
    have z0 := z 0 (by omega)
    rw [gw_P z0 (f := 0) (Or.inl (by omega)), gw_P z0 (f := 1) (Or.inl (by omega)), gw_P z0 (f := 2) (Or.inl (by omega)), gw_P z0 (f := 3) (Or.inl (by omega)), gw_P z0 (f := 4) (Or.inl (by omega)), gw_P z0 (f := 5) (Or.inl (by omega)), gw_P z0 (f := 6) (Or.inl (by omega))]
    refine ⟨t3.1, t3.2.1, t3.2.2.1, t3.2.2.2.1, t3.2.2.2.2.1, t3.2.2.2.2.2.1, t3.2.2.2.2.2.2.1, ?_⟩
    rcases hc with ⟨rfl, rfl, rfl, -⟩ | ⟨p, hp, rfl, rfl, rfl, -⟩ | ⟨t, ht, rfl, rfl, rfl, -⟩
    · rw [gw_Pn, gY_e]
    · rw [gw_P (z 3 (by omega)) (Or.inl (by omega)), gY_n Y (by omega)]
      exact t3.2.2.2.2.2.2.2
    · rw [gw_P (z 3 (by omega)) (Or.inl (by omega)), gY_n Y (by omega)]
      exact t3.2.2.2.2.2.2.2
  · obtain ⟨q1, q2, q3⟩ := t4 p hp
    rw [gY_n Y (r := 2) (by omega), gY_n Y (r := 209 + p) (by omega), gw_aP (z 2 (by omega))]
    refine ⟨q1, ?_⟩
    by_cases e : r0 = 241 + p
    · rcases hc with ⟨rfl, -⟩ | ⟨p', hp', rfl, rfl, rfl, rfl, c1, c2, c3, c4⟩ | ⟨t, ht, rfl, -⟩
      · omega
      · have : p' = p := by omega
        subst this
        rw [gw_Pn, gY_e, gY_ge, gw_Nn]
        exact ⟨rfl, c2⟩
      · omega
    · rw [gY_n Y (r := 241 + p) (Ne.symm e), gY_gn Y (r := 241 + p) (Ne.symm e), gw_N (z _ (by omega))]
      refine ⟨?_, q3⟩
      rw [gw_P (z _ (by omega))]
      · exact q2
      · by_cases e2 : rw = 209 + p
        · left
          rcases hc with ⟨rfl, rfl, rfl, -⟩ | ⟨p', hp', rfl, rfl, rfl, -⟩ | ⟨t, ht, rfl, rfl, rfl, -⟩ <;> omega
        · exact Or.inr (hT.inj (by omega) (by omega) (Ne.symm e2))
  · obtain ⟨q1, q2, q3⟩ := t5 t ht
    rw [gY_n Y (r := 1) (by omega), gY_n Y (r := 9 + t) (by omega), gw_aP (z 1 (by omega)), gw_I (z _ (by omega))]
    refine ⟨q1, q2, ?_⟩
    unfold SHq
    rw [gY_n Y (r := 9 + t) (by omega)]
    by_cases e : r0 = 273 + t
    · rcases hc with ⟨rfl, -⟩ | ⟨p', hp', rfl, rfl, rfl, rfl, c1, c2, c3, c4⟩ | ⟨t', ht', rfl, rfl, rfl, rfl, rfl, c1⟩
      · omega
      · omega
      · have : t' = t := by omega
        subst this
        rw [gw_Pn, gY_e, gY_ge, gw_Nn, gw_Tn, gY_oe]
        rcases q3 with y | y
        · exact Or.inr ⟨rfl, by rw [y.2], rfl, rfl, rfl, Nat.lt_succ_self _⟩
        · rw [c1] at y
          cases y.1
    · have hne : 97 ≠ fw ∨ Y.1 (9 + t) ≠ Y.1 rw := by
        by_cases e2 : rw = 9 + t
        · left
          rcases hc with ⟨rfl, rfl, rfl, -⟩ | ⟨p', hp', rfl, rfl, rfl, -⟩ | ⟨t', ht', rfl, rfl, rfl, -⟩ <;> omega
        · exact Or.inr (hT.inj (by omega) (by omega) (Ne.symm e2))
      rw [gw_P (z _ (by omega)) hne, gY_n Y (r := 273 + t) (Ne.symm e), gY_gn Y (r := 273 + t) (Ne.symm e)]
      rcases q3 with y | ⟨y1, y2, y3, y4, y5, y6⟩
      · exact Or.inl y
      · rw [gw_T y6, gw_N y6, gY_on Y (by omega)]
        exact Or.inr ⟨y1, y2, y3, y4, y5, Nat.lt_succ_of_lt y6⟩
  · by_cases e : r0 = 4
    · rcases hc with ⟨rfl, rfl, rfl, rfl, c1, c2, c3⟩ | ⟨p', hp', rfl, -⟩ | ⟨t', ht', rfl, -⟩
      · rw [gY_e, gY_ge, gw_Nn]
        exact c2
      · omega
      · omega
    · rw [gY_n Y (r := 4) (Ne.symm e), gY_gn Y (r := 4) (Ne.symm e), gw_N (z 4 (by omega))]
      exact t6
theorem gw_KV (hT : KT m Y) (h : KV m Y ρ kf vf n) (hc : GC m Y r0 rw fw ty N g) : KV (gwM m ty N g fw (Y.1 rw)) (gwY Y r0 N (zz m)) ρ kf vf n := by
  obtain ⟨f1, f2, f3, f4, f5, f6⟩ := hc.f
  have z : ∀ r, r < 273 → Y.1 r < zz m := fun r hr => (hT.1 r hr).2.2
  obtain ⟨hk, ⟨h6, h7, h8, h5⟩, hp, ht, hr, h1, hn⟩ := id h
  have z0 := z 0 (by omega)
  unfold KV
  rw [gY_n Y (r := 0) (by omega), gY_n Y (r := 3) (by omega), gY_n Y (r := 5) (by omega), gY_n Y (r := 6) (by omega), gY_n Y (r := 7) (by omega), gY_n Y (r := 8) (by omega), gw_I z0, gw_I z0, gw_I z0, gw_I z0, gw_I z0, gw_I (z 3 (by omega)), gw_aI (z 5 (by omega)), gw_aI (z 6 (by omega)), gw_aI (z 7 (by omega)), gw_aI (z 8 (by omega))]
  refine ⟨hk, ⟨h6, h7, h8, h5⟩, fun p hp2 => ?_, fun t ht2 => ?_, ?_, h1, hn⟩
  · obtain ⟨q1, q2, q3⟩ := hp p hp2
    rw [gY_n Y (r := 209 + p) (by omega), gw_I (z _ (by omega))]
    refine ⟨q1, ?_⟩
    by_cases e : r0 = 241 + p
    · rcases hc with ⟨rfl, -⟩ | ⟨p', hp', rfl, rfl, rfl, rfl, c1, c2, c3, c4⟩ | ⟨t, ht, rfl, -⟩
      · omega
      · have : p' = p := by omega
        subst this
        rw [gY_e, gw_Nn, gw_aIn]
        exact ⟨by omega, fun i hi => by rw [c3 i (by omega)]; exact q3 i hi⟩
      · omega
    · rw [gY_n Y (r := 241 + p) (Ne.symm e), gw_N (z _ (by omega)), gw_aI (z _ (by omega))]
      exact ⟨q2, q3⟩
  · obtain ⟨q1, q2, q3⟩ := ht t ht2
    rw [gY_n Y (r := 9 + t) (by omega), gw_L (z _ (by omega))]
    refine ⟨fun w hw => by rw [gw_I (z _ (by omega))]; exact q1 w hw, q2, fun h0 => ?_⟩
    obtain ⟨y1, y2, y3⟩ := q3 h0
    have hne : r0 ≠ 273 + t := fun e => by
      rcases hc with ⟨rfl, -⟩ | ⟨p', hp', rfl, -⟩ | ⟨t', ht', rfl, -, -, -, -, c1⟩
      · omega
      · omega
      · have : t' = t := by omega
        subst this
        rw [c1] at y1
        cases y1
    have hz : Y.1 (273 + t) < zz m := by
      rcases (hT.2.2.2.2.1 t (by omega)).2.2 with q | q
      · rw [q.1] at y1
        cases y1
      · exact q.2.2.2.2.2
    have hne2 : 97 ≠ fw ∨ Y.1 (9 + t) ≠ Y.1 rw := by
      by_cases e2 : rw = 9 + t
      · left
        rcases hc with ⟨rfl, rfl, rfl, -⟩ | ⟨p', hp', rfl, rfl, rfl, -⟩ | ⟨t', ht', rfl, rfl, rfl, -⟩ <;> omega
      · exact Or.inr (hT.inj (by omega) (by omega) (Ne.symm e2))
    rw [gw_P (z _ (by omega)) hne2, gY_n Y (r := 273 + t) (Ne.symm hne), gw_aI hz]
    exact ⟨y1, y2, y3⟩
  · by_cases e : r0 = 4
    · rcases hc with ⟨rfl, rfl, rfl, rfl, c1, c2, c3⟩ | ⟨p', hp', rfl, -⟩ | ⟨t', ht', rfl, -⟩
      · rw [gY_e, gw_Nn, gw_aIn]
        exact ⟨by omega, fun i hi => by rw [c3 i (by omega)]; exact hr.2 i hi⟩
      · omega
      · omega
    · rw [gY_n Y (r := 4) (Ne.symm e), gw_N (z 4 (by omega)), gw_aI (z 4 (by omega))]
      exact hr
theorem KQ.grow (h : KQ Z m Y ρ kf vf n) (hN : 1 ≤ N) (hc : GC m Y r0 rw fw ty N g) : KQ Z (gwM m ty N g fw (Y.1 rw)) (gwY Y r0 N (zz m)) ρ kf vf n ∧ Sm Y (gwY Y r0 N (zz m)) := by
  obtain ⟨f1, f2, f3, f4, f5, f6⟩ := hc.f
  exact ⟨⟨gw_KT h.1 hc, gw_KV h.1 h.2.1 hc, gw_FK h.1 h.2.2 hN hc⟩, fun r hr => gY_n Y (by omega)⟩
end GW2
