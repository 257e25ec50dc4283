/-! the class: check -/
section Class35
variable {G : GG} {Z : Mem × YY} {m : Mem} {o : Nat → Nat} {F : Nat} {Y : YY} {AN : Nat × Nat × Nat} {k : KF} {v : VF} {n s i : Nat} {nf : Nat → Int64}

theorem ck_lt {kf : KF} : ∀ {n i : Nat}, ckF kf n = some i → i < n := by
  intro n
  induction n with
  | zero => intro i h; cases h
  | succ n ih =>
    intro i h
    have h' : ckS kf n (ckF kf n) = some i := h
    unfold ckS at h'
    cases q : ckF kf n with
    | none =>
      rw [q] at h'
      dsimp only at h'
      split at h'
      · cases h'
      · cases h'
        exact Nat.lt_succ_self _
    | some j =>
      rw [q] at h'
      cases h'
      exact Nat.lt_succ_of_lt (ih q)

theorem k_redo (hF : gT m F = 6) (hA : gP m 101 F = some AN.1) (hN : NS m o 10 AN s nf) (hq : KQ Z m Y 102000 k v n) (hi : i < s) (hs : SN k v n i) {k2 : KF} {v2 : VF} {n2 : Nat} (ho : OPR (nf (4 * i)) (nf (4 * i + 1)) (nf (4 * i + 2)) (nf (4 * i + 3)) k v n k2 v2 n2) : EvC G 6 uX5_redo [.ref F, .int (nI i), .ref (Y.1 0)] m (fun r mm => r = none ∧ ∃ Y2, Y2.1 0 = Y.1 0 ∧ KQ Z mm Y2 102000 k2 v2 n2) := by
  have hn2 := hq.n2
  have hs1 := hN.2.2.2.2.1
  obtain ⟨hW, z, h0, hz, hG⟩ := id hs
  have T1 : ∀ j, j < 2 ^ 31 → ¬ j < n → tIn k (nI j) = false := fun j hj h => Bool.eq_false_iff.mpr (fun q => by
    obtain ⟨i, h1, h2⟩ := tIn_n hq.n1 hn2 q
    exact h (((nI_eq hj (by omega)).mp h2) ▸ h1))
  have P1 : ∀ j, j < 2 ^ 31 → ¬ j < 32 → inI (nI j) (nI 0) (nI 31) = false := fun j hj h => inI_f (by omega) (by decide) (by decide) hj
  rcases ho with ⟨p, b, h1, h2, h3, e0, e1, e3, rfl, rfl, en⟩ | ⟨a, b, c, h1, e0, e1, e2, e3, rfl, rfl, en⟩ | ⟨t, c, h1, e0, e1, e2, rfl, rfl, en⟩ | ⟨t, p, b, h1, e0, e1, e2, e3, rfl, rfl, en⟩ | ⟨p, e0, e1, rfl, rfl, en⟩ | ⟨l, h1, e0, e1, rfl, rfl, en⟩ | ⟨b, e0, e1, rfl, rfl, en⟩ | ⟨N, lf, h1, e0, e1, rfl, rfl, e4, e5⟩
  · rw [en]
    by_cases hj : p < n
    · exact redo0JJ hF hA hN hq hi (by omega) e1 hW.2.2.2.2.2.1 h2 h3 e3 hj h1 e0
    · exact redo0NJ hF hA hN hq hi (by omega) e1 hW.2.2.2.2.2.1 h2 h3 e3 (T1 p (by omega) hj) h1 e0
  · rw [en]
    by_cases ht : tIn k a = true
    · obtain ⟨j, hj, rfl⟩ := tIn_n hq.n1 hn2 ht
      have e1 := e1.trans (nI_l (by omega))
      by_cases hp : j < 32
      · exact redo1JJ hF hA hN hq hi (by omega) e1 h1 e2 e3 hj hp e0
      · exact redo1JN hF hA hN hq hi (by omega) e1 h1 e2 e3 hj (P1 j (by omega) hp) e0
    · rw [Bool.not_eq_true] at ht
      by_cases hp : inI a (nI 0) (nI 31) = true
      · obtain ⟨j, -, hj, rfl⟩ := inI_n (by decide) (by decide) hp
        exact redo1NJ hF hA hN hq hi (by omega) (e1.trans (nI_l (by omega))) h1 e2 e3 ht (by omega) e0
      · rw [Bool.not_eq_true] at hp
        exact redo1NN hF hA hN hq hi e1 h1 e2 e3 ht hp e0
  · rw [en]
    by_cases hp : t < 32
    · exact redo2JJ hF hA hN hq hi (by omega) e1 e2 h1 hp e0
    · exact redo2JN hF hA hN hq hi (by omega) e1 e2 h1 (P1 t (by omega) hp) e0
  · rw [en]
    by_cases hp : t < 32
    · exact redo3JJ hF hA hN hq hi (by omega) e1 e2 e3 h1 hp e0
    · exact redo3JN hF hA hN hq hi (by omega) e1 e2 e3 h1 (P1 t (by omega) hp) e0
  · rw [en]
    by_cases ht : tIn k p = true
    · obtain ⟨j, hj, rfl⟩ := tIn_n hq.n1 hn2 ht
      have e1 := e1.trans (nI_l (by omega))
      by_cases hp : j < 32
      · exact redo4JJ hF hA hN hq hi (by omega) e1 hj hp e0
      · exact redo4JN hF hA hN hq hi (by omega) e1 hj (P1 j (by omega) hp) e0
    · rw [Bool.not_eq_true] at ht
      by_cases hp : inI p (nI 0) (nI 31) = true
      · obtain ⟨j, -, hj, rfl⟩ := inI_n (by decide) (by decide) hp
        exact redo4NJ hF hA hN hq hi (by omega) (e1.trans (nI_l (by omega))) ht (by omega) e0
      · rw [Bool.not_eq_true] at hp
        exact redo4NN hF hA hN hq hi e1 ht hp e0
  · rw [en]
    by_cases hj : l < n
    · by_cases hp : l < 32
      · exact redo5JJ hF hA hN hq hi (by omega) e1 h1 hj hp e0
      · exact redo5JN hF hA hN hq hi (by omega) e1 h1 hj (P1 l (by omega) hp) e0
    · by_cases hp : l < 32
      · exact redo5NJ hF hA hN hq hi (by omega) e1 h1 (T1 l (by omega) hj) hp e0
      · exact redo5NN hF hA hN hq hi (by omega) e1 h1 (T1 l (by omega) hj) (P1 l (by omega) hp) e0
  · rw [en]
    by_cases ht : tIn k b = true
    · obtain ⟨j, hj, rfl⟩ := tIn_n hq.n1 hn2 ht
      have e1 := e1.trans (nI_l (by omega))
      by_cases hp : j < 32
      · exact redo6JJ hF hA hN hq hi (by omega) e1 hj hp e0
      · exact redo6JN hF hA hN hq hi (by omega) e1 hj (P1 j (by omega) hp) e0
    · rw [Bool.not_eq_true] at ht
      by_cases hp : inI b (nI 0) (nI 31) = true
      · obtain ⟨j, -, hj, rfl⟩ := inI_n (by decide) (by decide) hp
        exact redo6NJ hF hA hN hq hi (by omega) (e1.trans (nI_l (by omega))) ht (by omega) e0
      · rw [Bool.not_eq_true] at hp
        exact redo6NN hF hA hN hq hi e1 ht hp e0
  · skip
    by_cases hj : N < n
    · by_cases hp : N < 32
      · exact redo7JJ hF hA hN hq hi (by omega) e1 hW h1 (by omega) hG h0 lf e4 e5 hj hp e0
      · exact redo7JN hF hA hN hq hi (by omega) e1 hW h1 (by omega) hG h0 lf e4 e5 hj (P1 N (by omega) hp) e0
    · by_cases hp : N < 32
      · exact redo7NJ hF hA hN hq hi (by omega) e1 hW h1 (by omega) hG h0 lf e4 e5 (T1 N (by omega) hj) hp e0
      · exact redo7NN hF hA hN hq hi (by omega) e1 hW h1 (by omega) hG h0 lf e4 e5 (T1 N (by omega) hj) (P1 N (by omega) hp) e0

end Class35

/-- cells of other codes have changed -/
theorem CW.un {S : Nat → Prop} {m m1 : Mem} {o o1 : Nat → Nat} {F : Nat} {YL : YY} {AN : Nat × Nat × Nat} {kf : KF} {vf : VF} {n s : Nat} {nf : Nat → Int64} (h : CW m o F YL AN kf vf n s nf) (fs : FS S m o m1 o1) (hS : ∀ c, SC c → c ≠ 8 → ¬ S c) (hP : ∀ f, f < 102 → gP m1 f F = gP m f F) : CW m1 o1 F (rY YL o1) AN kf vf n s nf := by
  obtain ⟨⟨g1, g2, g3⟩, ⟨g4, g4'⟩, ⟨g5, g5'⟩, g6, g7, g8⟩ := h
  obtain ⟨a1, a2, a3, a4⟩ := fs.2.1 F g3
  have u := g6.un (by rw [g5']; exact fs) (fun c hc => hS c (by rw [g5] at hc; exact Or.inr (Or.inr (Or.inr hc))) (by rw [g5] at hc; unfold Ow at hc; omega))
  exact ⟨⟨a2.trans g1, a1.trans g2, Nat.lt_of_lt_of_le g3 fs.1⟩, ⟨(hP 100 (by omega)).trans g4, (hP 101 (by omega)).trans g4'⟩, ⟨g5, rfl⟩, u, g7.un fs (hS 10 (Or.inr (Or.inl rfl)) (by omega)) (hS 11 (Or.inr (Or.inr (Or.inl rfl))) (by omega)), g8⟩
/-- the kernel that replays; a: what it has cost -/
def RP (m : Mem) (o : Nat → Nat) (F a : Nat) : Prop := (gP m 102 F = none ∧ (∀ q, q < zz m → ¬ Ow 2000 (o q)) ∧ a = 0) ∨ ∃ YR : YY, gP m 102 F = some (YR.1 0) ∧ YR.2.1 = 2000 ∧ YR.2.2.2 = o ∧ KT m YR ∧ BYT m YR ∧ a = 4426 + pot YR.2.2.1
theorem RP.un {S : Nat → Prop} {m m1 : Mem} {o o1 : Nat → Nat} {F a : Nat} (h : RP m o F a) (fs : FS S m o m1 o1) (hS : ∀ c, Ow 2000 c → ¬ S c) (hP : gP m1 102 F = gP m 102 F) : RP m1 o1 F a := by
  rcases h with ⟨h1, h2, h3⟩ | ⟨YR, h1, h2, h3, h4, h5, h6⟩
  · refine Or.inl ⟨hP.trans h1, fun q hq => ?_, h3⟩
    rcases Nat.lt_or_ge q (zz m) with z | z
    · rw [(fs.2.1 q z).1]
      exact h2 q z
    · exact fun c => hS _ c (fs.2.2 q z hq)
  · have hd : ∀ c, Ow YR.2.1 c → ¬ S c := fun c hc => hS c (by rw [h2] at hc; exact hc)
    exact Or.inr ⟨rY YR o1, hP.trans h1, h2, rfl, h4.un (by rw [h3]; exact fs) hd, h5.un (by rw [h3]; exact fs) hd, h6⟩
def SR (q : Nat) : Prop := q = 8 ∨ Ow 2000 q
/-- a new kernel: its object, then its constructor -/
theorem kn_fs {m m1 : Mem} {o : Nat → Nat} {b : Nat} (hb : FS (Ow b) (nw m 1 12) (fun q => if q = zz m then b else o q) m1 (kiO (fun q => if q = zz m then b else o q) (zz (nw m 1 12)) b)) : FS (Ow b) m o m1 (kiO (fun q => if q = zz m then b else o q) (zz (nw m 1 12)) b) := by
  refine FS.tr (m1 := nw m 1 12) (o1 := fun q => if q = zz m then b else o q) ⟨Nat.le_succ _, fun q hq => ?_, fun q h1 h2 => ?_⟩ hb
  · obtain ⟨e1, e2, e3⟩ := nw_eqa m 1 12 hq
    exact ⟨if_neg (by omega), e2, e3, fun _ => e1⟩
  · have h2 : q < zz m + 1 := h2
    show Ow b (if q = zz m then b else o q)
    rw [if_pos (show q = zz m by omega)]
    exact ⟨Nat.le_refl _, by omega⟩
theorem kn_fr {m : Mem} {o : Nat → Nat} {b : Nat} (h : ∀ q, q < zz m → ¬ Ow b (o q)) : ∀ q, q < zz (nw m 1 12) → q ≠ zz m → ¬ Ow b ((fun q => if q = zz m then b else o q) q) := fun q h1 h2 => by
  have h1 : q < zz m + 1 := h1
  show ¬ Ow b (if q = zz m then b else o q)
  rw [if_neg h2]
  exact h q (by omega)
section Class35b
variable {G : GG} {m : Mem} {o : Nat → Nat} {F : Nat} {YL : YY} {AN : Nat × Nat × Nat} {kf : KF} {vf : VF} {n s : Nat} {nf : Nat → Int64}

theorem rY_L {m : Mem} {o : Nat → Nat} {F : Nat} {YL : YY} {AN : Nat × Nat × Nat} {kf : KF} {vf : VF} {n s : Nat} {nf : Nat → Int64} (h : CW m o F YL AN kf vf n s nf) : rY YL o = YL := by
  rw [← h.2.2.1.2]
  rfl
theorem ktP {m : Mem} {Y : YY} {f a : Nat} {x : Option Nat} (h : KT m Y) (hf : 97 < f) : KT (sP m f a x) Y := by
  obtain ⟨t1, t2, t3, t4, t5, t6⟩ := h
  have e : ∀ g b, g ≤ 97 → gP (sP m f a x) g b = gP m g b := fun g b hg => u2_nf _ _ (by omega)
  refine ⟨t1, t2, ?_, fun p hp => ?_, fun t ht => ?_, t6⟩
  · rw [e 0 _ (by omega), e 1 _ (by omega), e 2 _ (by omega), e 3 _ (by omega), e 4 _ (by omega), e 5 _ (by omega), e 6 _ (by omega), e 61 _ (by omega)]
    exact t3
  · rw [e 41 _ (by omega)]
    exact t4 p hp
  · obtain ⟨q1, q2, q3⟩ := t5 t ht
    refine ⟨q1, q2, ?_⟩
    unfold SHq
    rw [e 97 _ (by omega)]
    exact q3
theorem bytP {m : Mem} {Y : YY} {f a : Nat} {x : Option Nat} (h : BYT m Y) : BYT (sP m f a x) Y := h
theorem ck_c0 {kf : KF} {c : Nat} (h3 : kf 3 = nI c) (hc : c ≤ 8000) (h : rowB kf (ckR kf) (nI 0) = false) : kf 0 = ckT kf := by
  unfold ckT
  have h3n : (kf 3).toNatClampNeg = c := by rw [h3, nI_clamp (by omega)]
  have hN : ckN kf = 5 * c := by unfold ckN; rw [h3n]
  cases q : ckF kf (ckN kf) with
  | none => rfl
  | some i =>
    exfalso
    have hi : i < 5 * c := by rw [← hN]; exact ck_lt q
    have e : ckR kf = nI (i / 5) := by unfold ckR; rw [q]
    rw [e] at h
    unfold rowB at h
    rw [h3, pk_sub (by omega), inI_of (by omega) (by omega) (by omega), inI_of (by omega) (by omega) (by decide)] at h
    cases h
theorem ck_c1 {kf : KF} {c : Nat} (h3 : kf 3 = nI c) (hc : c ≤ 8000) (h : rowB kf (ckR kf) (nI 0) = true) : rwR kf 102000 (ckR kf) (nI 0) = ckT kf := by
  unfold ckT
  have h3n : (kf 3).toNatClampNeg = c := by rw [h3, nI_clamp (by omega)]
  have hN : ckN kf = 5 * c := by unfold ckN; rw [h3n]
  cases q : ckF kf (ckN kf) with
  | none =>
    exfalso
    have e : ckR kf = -1 := by unfold ckR; rw [q]
    rw [e] at h
    unfold rowB at h
    rw [show inI (-1) (nI 0) (kf 3 - nI 1) = false from decide_eq_false (fun z => absurd z.1 (by decide))] at h
    cases h
  | some i =>
    have hi : i < 5 * c := by rw [← hN]; exact ck_lt q
    have e : ckR kf = nI (i / 5) := by unfold ckR; rw [q]
    unfold rwR
    rw [h, if_pos rfl, e, nI_clamp (by omega), nI_clamp (by omega)]
    show kf (102000 + 5 * (i / 5) + 0) = kf (102000 + i / 5 * 5)
    rw [show 102000 + 5 * (i / 5) + 0 = 102000 + i / 5 * 5 by omega]

set_option maxRecDepth 100000 in
set_option maxHeartbeats 4000000 in
theorem k5_check (hC : CW m o F YL AN kf vf n s nf) (hS : SN kf vf n s) (hH : HI nf s kf vf n) {a : Nat} (hRP : RP m o F a) : EvC G 7 uX5_check [.ref F] m (fun r mm => r = some (.int (ckR kf)) ∧ ∃ o' a', CW mm o' F (rY YL o') AN kf vf n s nf ∧ FS SR m o mm o' ∧ (∀ f, f ≠ 102 → gP mm f F = gP m f F) ∧ gI mm 105 F = gI m 105 F ∧ gI mm 106 F = ckT kf ∧ RP mm o' F a' ∧ nn mm + a = nn m + a' ∧ 16 * zz mm + a ≤ 16 * zz m + a') := by
  refine EvC.of (by decide +kernel) (Nat.le_of_ble_eq_true rfl) ?_
  obtain ⟨K, V, N, hK0, hN0, hKs, hKa, hVa, hNn⟩ := id hH
  obtain ⟨c, hc, h3⟩ := hS.1.2.2.2.2.2.2.2.1
  have hs9 := hC.2.2.2.2.1.2.2.2.2.1
  have h8 := hC.1.2.1
  have hz8 := hC.1.2.2
  -- from 18 on: there is a kernel
  have C : ∀ (m1 : Mem) (YR : YY), YR.2.1 = 2000 → CW m1 YR.2.2.2 F (rY YL YR.2.2.2) AN kf vf n s nf → FS SR m o m1 YR.2.2.2 → (∀ f, f ≠ 102 → gP m1 f F = gP m f F) → (gI m1 105 F = gI m 105 F) → gP m1 102 F = some (YR.1 0) → KT m1 YR → BYT m1 YR → nn m1 + a = nn m + (4426 + pot YR.2.2.1) → 16 * zz m1 + a ≤ 16 * zz m + (4426 + pot YR.2.2.1) → EvR G 7 uX5_check (zz m) (nn m) (fun r mm => r = some (.int (ckR kf)) ∧ ∃ o' a', CW mm o' F (rY YL o') AN kf vf n s nf ∧ FS SR m o mm o' ∧ (∀ f, f ≠ 102 → gP mm f F = gP m f F) ∧ gI mm 105 F = gI m 105 F ∧ gI mm 106 F = ckT kf ∧ RP mm o' F a' ∧ nn mm + a = nn m + a' ∧ 16 * zz mm + a ≤ 16 * zz m + a') 18 [(0, .ref F)] [] m1 := by
    intro m1 YR hb hC1 hF1 hP1 hI1 hR1 hT1 hB1 ha1 hz1
    have hu1 : KU (m1, YR) m1 YR := ⟨hT1, trivial, FK.rf m1 YR hB1⟩
    have hsc : ∀ c, SC c → c ≠ 8 → ¬ Ow 2000 c := fun c h1 h2 => by unfold SC at h1; unfold Ow at *; omega
    -- what holds of a memory behind some steps of the replay
    have W : ∀ (M : Mem) (Yc : YY), KU (m1, YR) M Yc → CW M Yc.2.2.2 F (rY YL Yc.2.2.2) AN kf vf n s nf ∧ Eqa m1 M F ∧ FS (Ow 2000) m1 YR.2.2.2 M Yc.2.2.2 := by
      intro M Yc hU
      have fs : FS (Ow 2000) m1 YR.2.2.2 M Yc.2.2.2 := by
        have := hU.2.2.fs
        rw [hb] at this
        exact this
      have e := (fs.2.1 F hC1.1.2.2).2.2.2 (by rw [hC1.1.2.1]; unfold Ow; omega)
      exact ⟨hC1.un fs hsc (fun f _ => e.2.2.1 f), e, fs⟩
    have E : ∀ (M : Mem) (Yc : YY), Yc.1 0 = YR.1 0 → KQ (m1, YR) M Yc 102000 kf vf n → EvR G 7 uX5_check (zz m) (nn m) (fun r mm => r = some (.int (ckR kf)) ∧ ∃ o' a', CW mm o' F (rY YL o') AN kf vf n s nf ∧ FS SR m o mm o' ∧ (∀ f, f ≠ 102 → gP mm f F = gP m f F) ∧ gI mm 105 F = gI m 105 F ∧ gI mm 106 F = ckT kf ∧ RP mm o' F a' ∧ nn mm + a = nn m + a' ∧ 16 * zz mm + a ≤ 16 * zz m + a') 53 [(0, .ref F)] [] M := by
      intro M Yc hY hq
      obtain ⟨hCM, hEF, hFM⟩ := W M Yc hq.u
      have hqL := hCM.2.2.2.1.q
      refine r_go (fun kk => e_aload_n 0 dX5_check_53 rfl kk) ?_
      refine r_go (fun kk => e_getP (some (YL.1 0)) dX5_check_54 fl_X5_12 rfl hCM.1.1 hCM.2.1.1 kk) ?_
      refine r_go (fun kk => e_getP (some (YL.1 3)) dX5_check_57 fl_X5_150 rfl (hqL.T 0 (by decide)) (hqL.1.2.2.1.2.2.1) kk) ?_
      refine r_go (fun kk => e_aload_n 0 dX5_check_60 rfl kk) ?_
      refine r_go (fun kk => e_getP (some (YR.1 0)) dX5_check_61 fl_X5_23 rfl hCM.1.1 (by rw [hEF.2.2.1]; exact hR1) kk) ?_
      refine r_go (fun kk => e_getP (some (Yc.1 3)) dX5_check_64 fl_X5_150 rfl (by rw [← hY]; exact hq.T 0 (by decide)) (by rw [← hY]; exact hq.1.2.2.1.2.2.1) kk) ?_
      refine r_go (fun kk => e_callV (ci := 3) (st := []) (st1 := [.int (ckR kf)]) (As := [.ref (Yc.1 3)]) (k_unlike (G := G) (Y := rY YL Yc.2.2.2) hqL hq h3 hc) dX5_check_67 (by decide) cm_X3_firstUnlike lk_X5_177 im_X3_firstUnlike rfl sel_X3_firstUnlike (hqL.T 3 (by decide)) rfl rfl (Nat.le_of_ble_eq_true rfl) rfl kk) ?_
      refine r_go (fun kk => e_istore_n (lv' := [(1, .int (ckR kf)), (0, .ref F)]) dX5_check_70 (by decide) rfl kk) ?_
      refine r_go (fun kk => e_aload_n 1 dX5_check_71 rfl kk) ?_
      refine r_go (fun kk => e_aload_n 1 dX5_check_72 rfl kk) ?_
      refine r_go (fun kk => e_getP (some (YR.1 0)) dX5_check_73 fl_X5_23 rfl hCM.1.1 (by rw [hEF.2.2.1]; exact hR1) kk) ?_
      refine r_go (fun kk => e_getP (some (Yc.1 3)) dX5_check_76 fl_X5_150 rfl (by rw [← hY]; exact hq.T 0 (by decide)) (by rw [← hY]; exact hq.1.2.2.1.2.2.1) kk) ?_
      refine r_go (fun kk => e_iload_n 0 dX5_check_79 rfl kk) ?_
      refine r_go (fun kk => e_ic (nI 0) dX5_check_80 (by decide) kk) ?_
      refine r_go (fun kk => e_callV (ci := 3) (st := [.ref F]) (st1 := [.int (bI (rowB kf (ckR kf) (nI 0))), .ref F]) (As := [.int (ckR kf), .int (nI 0)]) (k_has (G := G) hq h3 hc (ckR kf) (nI 0)) dX5_check_81 (by decide) cm_X3_has lk_X5_154 im_X3_has rfl sel_X3_has (hq.T 3 (by decide)) rfl rfl (Nat.le_of_ble_eq_true rfl) rfl kk) ?_
      refine r_bb (fun ka kb => e_if_eqB 102 dX5_check_84 (by decide) ka kb) (fun bq => ?_) (fun bq => ?_)
      · skip
        refine r_go (fun kk => e_aload_n 1 dX5_check_102 rfl kk) ?_
        refine r_go (fun kk => e_getP (some (YR.1 0)) dX5_check_103 fl_X5_23 rfl hCM.1.1 (by rw [hEF.2.2.1]; exact hR1) kk) ?_
        refine r_go (fun kk => e_getIv (kf 0) dX5_check_106 fl_X5_85 rfl (by rw [← hY]; exact hq.T 0 (by decide)) (by rw [← hY]; exact hq.2.1.1.1) kk) ?_
        refine r_go (fun kk => e_iv (w := ckT kf) (ck_c0 h3 hc bq) kk) ?_
        refine r_go (fun kk => e_putI (ci := 5) (k := 6) dX5_check_109 fl_X5_36 rfl (fun q h => by cases h; rfl) ⟨rfl, rfl⟩ hCM.1.1 kk) ?_
        refine r_go (fun kk => e_iload_n 0 dX5_check_112 rfl kk) ?_
        obtain ⟨f1, f2⟩ := hCM.f 106 (ckT kf)
        have fk := hq.2.2
        have p1 : nn M + pot YR.2.2.1 = nn m1 + pot Yc.2.2.1 := fk.2.2.2.1
        have p2 : 16 * zz M + pot YR.2.2.1 ≤ 16 * zz m1 + pot Yc.2.2.1 := fk.2.2.2.2.1
        refine r_ret ⟨rfl, Yc.2.2.2, 4426 + pot Yc.2.2.1, f1, ?_, fun f hf => (hEF.2.2.1 f).trans (hP1 f hf), (gI_nf (by omega)).trans ((hEF.1 105).trans hI1), u2_eq (gI M) 106 F _, Or.inr ⟨Yc, ?_, ?_, rfl, hq.1.sI (by omega), ?_, rfl⟩, ?_, ?_⟩ (e_retI dX5_check_113 rfl rfl rfl)
        · exact hF1.tr ((hFM.up (fun c hc => Or.inr hc)).tr (f2.up (fun c hc => Or.inl hc)))
        · show gP M 102 F = some (Yc.1 0)
          rw [hEF.2.2.1, hY]
          exact hR1
        · exact (show Yc.2.1 = YR.2.1 from fk.2.1).trans hb
        · have := hq.ks.2.2
          exact this
        · show nn M + a = nn m + (4426 + pot Yc.2.2.1)
          omega
        · show 16 * zz M + a ≤ 16 * zz m + (4426 + pot Yc.2.2.1)
          omega
      · skip
        refine r_go (fun kk => e_aload_n 1 dX5_check_87 rfl kk) ?_
        refine r_go (fun kk => e_getP (some (YR.1 0)) dX5_check_88 fl_X5_23 rfl hCM.1.1 (by rw [hEF.2.2.1]; exact hR1) kk) ?_
        refine r_go (fun kk => e_getP (some (Yc.1 3)) dX5_check_91 fl_X5_150 rfl (by rw [← hY]; exact hq.T 0 (by decide)) (by rw [← hY]; exact hq.1.2.2.1.2.2.1) kk) ?_
        refine r_go (fun kk => e_iload_n 0 dX5_check_94 rfl kk) ?_
        refine r_go (fun kk => e_ic (nI 0) dX5_check_95 (by decide) kk) ?_
        refine r_go (fun kk => e_callV (ci := 3) (st := [.ref F]) (st1 := [.int (rwR kf 102000 (ckR kf) (nI 0)), .ref F]) (As := [.int (ckR kf), .int (nI 0)]) (k_get (G := G) hq h3 hc (ckR kf) (nI 0)) dX5_check_96 (by decide) cm_X3_get lk_X5_160 im_X3_get rfl sel_X3_get (hq.T 3 (by decide)) rfl rfl (Nat.le_of_ble_eq_true rfl) rfl kk) ?_
        refine r_go (fun kk => e_goto 109 dX5_check_99 (by decide) kk) ?_
        refine r_go (fun kk => e_iv (w := ckT kf) (ck_c1 h3 hc bq) kk) ?_
        refine r_go (fun kk => e_putI (ci := 5) (k := 6) dX5_check_109 fl_X5_36 rfl (fun q h => by cases h; rfl) ⟨rfl, rfl⟩ hCM.1.1 kk) ?_
        refine r_go (fun kk => e_iload_n 0 dX5_check_112 rfl kk) ?_
        obtain ⟨f1, f2⟩ := hCM.f 106 (ckT kf)
        have fk := hq.2.2
        have p1 : nn M + pot YR.2.2.1 = nn m1 + pot Yc.2.2.1 := fk.2.2.2.1
        have p2 : 16 * zz M + pot YR.2.2.1 ≤ 16 * zz m1 + pot Yc.2.2.1 := fk.2.2.2.2.1
        refine r_ret ⟨rfl, Yc.2.2.2, 4426 + pot Yc.2.2.1, f1, ?_, fun f hf => (hEF.2.2.1 f).trans (hP1 f hf), (gI_nf (by omega)).trans ((hEF.1 105).trans hI1), u2_eq (gI M) 106 F _, Or.inr ⟨Yc, ?_, ?_, rfl, hq.1.sI (by omega), ?_, rfl⟩, ?_, ?_⟩ (e_retI dX5_check_113 rfl rfl rfl)
        · exact hF1.tr ((hFM.up (fun c hc => Or.inr hc)).tr (f2.up (fun c hc => Or.inl hc)))
        · show gP M 102 F = some (Yc.1 0)
          rw [hEF.2.2.1, hY]
          exact hR1
        · exact (show Yc.2.1 = YR.2.1 from fk.2.1).trans hb
        · have := hq.ks.2.2
          exact this
        · show nn M + a = nn m + (4426 + pot Yc.2.2.1)
          omega
        · show 16 * zz M + a ≤ 16 * zz m + (4426 + pot Yc.2.2.1)
          omega
    have L : ∀ (j i : Nat) (M : Mem) (Yc : YY), i + j = s → Yc.1 0 = YR.1 0 → KQ (m1, YR) M Yc 102000 (K i) (V i) (N i) → EvR G 7 uX5_check (zz m) (nn m) (fun r mm => r = some (.int (ckR kf)) ∧ ∃ o' a', CW mm o' F (rY YL o') AN kf vf n s nf ∧ FS SR m o mm o' ∧ (∀ f, f ≠ 102 → gP mm f F = gP m f F) ∧ gI mm 105 F = gI m 105 F ∧ gI mm 106 F = ckT kf ∧ RP mm o' F a' ∧ nn mm + a = nn m + a' ∧ 16 * zz mm + a ≤ 16 * zz m + a') 27 [(1, .int (nI i)), (0, .ref F)] [] M := by
      intro j
      induction j with
      | zero =>
        intro i M Yc hi hY hq
        obtain ⟨hCM, hEF, hFM⟩ := W M Yc hq.u
        have his : i = s := by omega
        subst his
        have n3 := hq.2.1.2.2.2.2.1.1
        have n4 := LC.b hq.1.2.2.2.2.2
        have hq2 := hq.cgk (by omega) (fun j hj => ag_rl hq.n2 (by omega) hKa hj) (fun t ht => hVa t (by have := hq.n2; omega))
        rw [hNn] at hq2
        refine r_go (fun kk => e_iload_n 0 dX5_check_27 rfl kk) ?_
        refine r_go (fun kk => e_aload_n 1 dX5_check_28 rfl kk) ?_
        refine r_go (fun kk => e_getP (some AN.1) dX5_check_29 fl_X5_19 rfl hCM.1.1 hCM.2.1.2 kk) ?_
        refine r_go (fun kk => e_getIv (nI i) dX5_check_32 fl_X5_170 rfl hCM.2.2.2.2.1.1.1 hCM.2.2.2.2.1.2.2.2.1 kk) ?_
        refine r_go (fun kk => e_icmp_geN 53 dX5_check_35 (by decide) (by omega) (by omega) (fun _ => kk) (fun h => absurd h (by omega))) ?_
        refine r_go (fun kk => e_sub [1] rfl kk) ?_
        exact E M Yc hY hq2
      | succ j ih =>
        intro i M Yc hi hY hq
        obtain ⟨hCM, hEF, hFM⟩ := W M Yc hq.u
        have n3 := hq.2.1.2.2.2.2.1.1
        have n4 := LC.b hq.1.2.2.2.2.2
        obtain ⟨k, v, hk1, hk2, hk3, hk4⟩ := hKs i (by omega)
        have hq1 := hq.cgk (by omega) (fun j hj => ag_rl hq.n2 (by omega) hk1 hj) (fun t ht => hk2 t (by have := hq.n2; omega))
        obtain ⟨_, M2, ⟨rfl, Y2, hY2, hq2⟩, E2⟩ := k_redo (G := G) hCM.1.1 hCM.2.1.2 hCM.2.2.2.2.1 hq1 (show i < s by omega) hk3 hk4
        rw [hY] at E2
        refine r_go (fun kk => e_iload_n 0 dX5_check_27 rfl kk) ?_
        refine r_go (fun kk => e_aload_n 1 dX5_check_28 rfl kk) ?_
        refine r_go (fun kk => e_getP (some AN.1) dX5_check_29 fl_X5_19 rfl hCM.1.1 hCM.2.1.2 kk) ?_
        refine r_go (fun kk => e_getIv (nI s) dX5_check_32 fl_X5_170 rfl hCM.2.2.2.2.1.1.1 hCM.2.2.2.2.1.2.2.2.1 kk) ?_
        refine r_go (fun kk => e_icmp_geN 53 dX5_check_35 (by decide) (by omega) (by omega) (fun h => absurd h (by omega)) (fun _ => kk)) ?_
        refine r_go (fun kk => e_aload_n 1 dX5_check_38 rfl kk) ?_
        refine r_go (fun kk => e_iload_n 0 dX5_check_39 rfl kk) ?_
        refine r_go (fun kk => e_aload_n 1 dX5_check_40 rfl kk) ?_
        refine r_go (fun kk => e_getP (some (YR.1 0)) dX5_check_41 fl_X5_23 rfl hCM.1.1 (by rw [hEF.2.2.1]; exact hR1) kk) ?_
        refine r_go (fun kk => e_callV (ci := 5) (st := []) (st1 := []) (As := [.int (nI i), .ref (YR.1 0)]) (E2) dX5_check_44 (by decide) cm_X5_redo lk_X5_173 im_X5_redo rfl sel_X5_redo hCM.1.1 rfl rfl (Nat.le_of_ble_eq_true rfl) rfl kk) ?_
        refine r_go (fun kk => e_iinc1N (lv' := [(1, .int (nI (i + 1))), (0, .ref F)]) 0 dX5_check_47 rfl (by decide) rfl kk) ?_
        refine r_go (fun kk => e_goto 27 dX5_check_50 (by decide) kk) ?_
        refine r_go (fun kk => e_sub [0, 1] rfl kk) ?_
        exact ih (i + 1) M2 Y2 (by omega) (hY2.trans hY) hq2
    have hY : YR.1 0 = YR.1 0 := rfl
    refine r_go (fun kk => e_aload_n 0 dX5_check_18 rfl kk) ?_
    refine r_go (fun kk => e_getP (some (YR.1 0)) dX5_check_19 fl_X5_23 rfl hC1.1.1 (hR1) kk) ?_
    obtain ⟨_, M0, ⟨rfl, hq0⟩, E0x22⟩ := k_clear (G := G) (ρ := 102000) (vf := V 0) hu1 hK0
    refine r_go (fun kk => e_callV (ci := 0) (st := []) (st1 := []) (As := []) (E0x22) dX5_check_22 (by decide) cm_X0_clear lk_X5_167 im_X0_clear rfl sel_X0_clear (by rw [← hY]; exact hu1.T 0 (by decide)) rfl rfl (Nat.le_of_ble_eq_true rfl) rfl kk) ?_
    refine r_go (fun kk => e_ic (nI 0) dX5_check_25 (by decide) kk) ?_
    refine r_go (fun kk => e_istore_n (lv' := [(1, .int (nI 0)), (0, .ref F)]) dX5_check_26 (by decide) rfl kk) ?_
    refine r_go (fun kk => e_sub [0, 1] rfl kk) ?_
    exact L s 0 M0 YR (by omega) rfl (by rw [hN0]; exact hq0)
  refine r_go (fun kk => e_lvs (lv' := [(0, .ref F)]) rfl kk) ?_
  rcases hRP with ⟨r1, r2, r3⟩ | ⟨YR, r1, r2, r3, r4, r5, r6⟩
  · skip
    refine r_go (fun kk => e_aload_n 0 dX5_check_0 rfl kk) ?_
    refine r_go (fun kk => e_getP (none) dX5_check_1 fl_X5_23 rfl hC.1.1 r1 kk) ?_
    refine r_go (fun kk => e_ifnonnullN dX5_check_4 kk) ?_
    refine r_go (fun kk => e_aload_n 0 dX5_check_7 rfl kk) ?_
    refine r_go (fun kk => e_new (ci := 0) dX5_check_8 rfl cl_X5_9 ins_X0 ini_X0 kk) ?_
    refine r_go (fun kk => e_dup dX5_check_11 rfl kk) ?_
    obtain ⟨_, m2, ⟨rfl, k1, k2, -, k4, k5, k6⟩, Ek⟩ := k_kinit (G := G) (m := nw m 1 12) (o := fun q => if q = zz m then 2000 else o q) (a := zz m) (b := 2000) (nw_0 m 1 12).1 (Nat.lt_succ_self _) (if_pos rfl) (kn_fr r2)
    refine r_go (fun kk => e_callI (st := [.ref (zz m), .ref F]) (As := []) Ek dX5_check_12 (by decide) cm_X0_init rfl rfl lk_X5_11 im_X0_init rfl rfl (Nat.le_of_ble_eq_true rfl) kk) ?_
    have kf1 := kn_fs k4
    obtain ⟨x1, x2, x3, x4⟩ := kf1.2.1 F hz8
    have xe := x4 (by rw [h8]; unfold Ow; omega)
    refine r_go (fun kk => e_putP (ci := 5) (k := 2) (some (zz m)) dX5_check_15 fl_X5_23 rfl (fun q h => by cases h; rfl) ⟨rfl, rfl⟩ rfl (x2.trans hC.1.1) kk) ?_
    generalize hYg : kiY (fun q => if q = zz m then 2000 else o q) (zz m) (zz (nw m 1 12)) 2000 = YR at k1 k2
    have y0 : YR.1 0 = zz m := by rw [← hYg]; rfl
    have yb : YR.2.1 = 2000 := by rw [← hYg]; rfl
    have yo : YR.2.2.2 = kiO (fun q => if q = zz m then 2000 else o q) (zz (nw m 1 12)) 2000 := by rw [← hYg]; rfl
    have yg : pot YR.2.2.1 = 1344 := by rw [← hYg]; exact kiG_pot
    rw [← yo] at kf1 x1
    clear hYg yo
    have hsc : ∀ c, SC c → c ≠ 8 → ¬ Ow 2000 c := fun c h1 h2 => by unfold SC at h1; unfold Ow at *; omega
    have hC2 := hC.un kf1 hsc (fun f _ => xe.2.2.1 f)
    have sf := sP_f m2 102 F (some (zz m))
    obtain ⟨s1, s2, s3, s4, s5, s6, s7, s8, s9, s10, s11, s12⟩ := sf
    have fsP : FS (fun q => q = 8) m2 YR.2.2.2 (sP m2 102 F (some (zz m))) YR.2.2.2 := FS.wr (a := F) (x1.trans h8) s3 s4 s1 s12
    have hC3 := hC2.un fsP (fun c _ h => h) (fun f hf => s11 f F (Or.inl (by omega)))
    have nz : zz (nw m 1 12) = zz m + 1 := rfl
    have nn1 : nn (nw m 1 12) = nn m + 12 := rfl
    refine C _ YR yb hC3 ((kf1.up (fun c hc => Or.inr hc)).tr (fsP.up (fun c hc => Or.inl hc))) (fun f hf => (s11 f F (Or.inl hf)).trans (xe.2.2.1 f)) ?_ (by rw [y0]; exact s10) (ktP k1 (by omega)) ?_ ?_ ?_
    · rw [s5]; exact xe.1 105
    · exact bytP k2
    · rw [s2]; omega
    · rw [s1]; omega
  · skip
    refine r_go (fun kk => e_aload_n 0 dX5_check_0 rfl kk) ?_
    refine r_go (fun kk => e_getP (some (YR.1 0)) dX5_check_1 fl_X5_23 rfl hC.1.1 r1 kk) ?_
    refine r_go (fun kk => e_ifnonnull 18 dX5_check_4 (by decide) kk) ?_
    subst r3
    exact C m YR r2 (by rw [rY_L hC]; exact hC) (FS.rf _ m _) (fun _ _ => rfl) rfl r1 r4 r5 (by omega) (by omega)

end Class35b
