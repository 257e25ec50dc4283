/-! the notes of the class -/
def nfP (nf : Nat → Int64) (s : Nat) (x0 x1 x2 x3 : Int64) : Nat → Int64 := fun i => if i = 4 * s then x0 else if i = 4 * s + 1 then x1 else if i = 4 * s + 2 then x2 else if i = 4 * s + 3 then x3 else nf i
def S2 (c : Nat) (q : Nat) : Prop := q = c ∨ q = c + 1
section Class20
variable {G : GG} {m : Mem} {o : Nat → Nat} {c s : Nat} {A : Nat × Nat × Nat} {nf : Nat → Int64}

set_option maxRecDepth 100000 in
set_option maxHeartbeats 4000000 in
theorem k_notesGet (hN : NS m o c A s nf) {i j : Nat} (hi : i < s) (hj : j < 4) : Ev G 0 uX1_get [.ref A.1, .int (nI i), .int (nI j)] m (some (.long (nf (4 * i + j)))) m := by
  refine Ev.of (by decide +kernel) (Nat.le_of_ble_eq_true rfl) ?_
  have hs := hN.2.2.2.2.1
  have hle := hN.2.2.2.2.2.2.1
  refine e_lvs (lv' := [(0, .ref A.1), (1, .int (nI i)), (2, .int (nI j))]) rfl ?_
  refine e_iload_n 1 dX1_get_0 rfl ?_
  refine e_if_lt 34 dX1_get_1 (by decide) (fun h => absurd h (nI_pos (by omega))) (fun _ => ?_)
  refine e_iload_n 1 dX1_get_4 rfl ?_
  refine e_aload_n 0 dX1_get_5 rfl ?_
  refine e_getIv (nI s) dX1_get_6 fl_X1_9 rfl (hN.1.1) (hN.2.2.2.1) ?_
  refine e_icmp_geN 34 dX1_get_9 (by decide) (by omega) (by omega) (fun h => absurd h (by omega)) (fun _ => ?_)
  refine e_iload_n 2 dX1_get_12 rfl ?_
  refine e_if_lt 34 dX1_get_13 (by decide) (fun h => absurd h (nI_pos (by omega))) (fun _ => ?_)
  refine e_iload_n 2 dX1_get_16 rfl ?_
  refine e_ic (nI 4) dX1_get_17 (by decide) ?_
  refine e_icmp_geN 34 dX1_get_18 (by decide) (by omega) (by omega) (fun h => absurd h (by omega)) (fun _ => ?_)
  refine e_aload_n 0 dX1_get_21 rfl ?_
  refine e_getP (some A.2.1) dX1_get_22 fl_X1_15 rfl (hN.1.1) (hN.2.2.1) ?_
  refine e_iload_n 1 dX1_get_25 rfl ?_
  refine e_ic (nI 4) dX1_get_26 (by decide) ?_
  refine e_imulN dX1_get_27 ?_
  refine e_iload_n 2 dX1_get_28 rfl ?_
  refine e_iaddN dX1_get_29 ?_
  refine e_laldN (nf (4 * i + j)) dX1_get_30 hN.2.1.1 (by omega) (by have := hN.2.2.2.2.2.1; unfold LT at this; omega) (by rw [show i * 4 + j = 4 * i + j by omega]; exact hN.2.2.2.2.2.2.2 _ (by omega)) ?_
  refine e_goto 35 dX1_get_31 (by decide) ?_
  exact e_retL dX1_get_35 rfl rfl

set_option maxRecDepth 100000 in
set_option maxHeartbeats 4000000 in
theorem k_notesAddF (hN : NS m o c A s nf) (hs : s = 1000) (x : Int32) (x1 x2 x3 : Int64) : Ev G 2 uX1_add [.ref A.1, .int x, .long x1, .long x2, .long x3] m (some (.int (nI 0))) m := by
  refine Ev.of (by decide +kernel) (Nat.le_of_ble_eq_true rfl) ?_
  refine e_lvs (lv' := [(0, .ref A.1), (1, .int x), (2, .long x1), (4, .long x2), (6, .long x3)]) rfl ?_
  refine e_aload_n 0 dX1_add_0 rfl ?_
  refine e_getIv (nI s) dX1_add_1 fl_X1_9 rfl (hN.1.1) (hN.2.2.2.1) ?_
  refine e_sipush (v := nI 1000) dX1_add_4 (by decide) ?_
  refine e_icmp_ltN 12 dX1_add_7 (by decide) (by omega) (by omega) (fun h => absurd h (by omega)) (fun _ => ?_)
  refine e_ic (nI 0) dX1_add_10 (by decide) ?_
  exact e_retI dX1_add_11 rfl rfl rfl

set_option maxRecDepth 100000 in
set_option maxHeartbeats 4000000 in
theorem k_notesAdd (hN : NS m o c A s nf) (hs : s < 1000) (x : Int32) (x1 x2 x3 : Int64) : EvC G 2 uX1_add [.ref A.1, .int x, .long x1, .long x2, .long x3] m (fun r mm => r = some (.int (nI 1)) ∧ ∃ A' o', A'.1 = A.1 ∧ NS mm o' c A' (s + 1) (nfP nf s x.toInt64 x1 x2 x3) ∧ FS (S2 c) m o mm o' ∧ nn mm + A.2.2 = nn m + A'.2.2 ∧ 16 * zz mm + A.2.2 ≤ 16 * zz m + A'.2.2) := by
  refine EvC.of (by decide +kernel) (Nat.le_of_ble_eq_true rfl) ?_
  have hlt0 := hN.2.2.2.2.2.1
  have hle := hN.2.2.2.2.2.2.1
  have C : ∀ (m1 : Mem) (C1 g1 : Nat) (o1 : Nat → Nat), gT m1 A.1 = 2 → gI m1 20 A.1 = nI s → gP m1 21 A.1 = some C1 → gT m1 C1 = 13 → (o1 A.1 = c ∧ o1 C1 = c + 1) → (A.1 < zz m1 ∧ C1 < zz m1) → LT (gN m1 C1) g1 → 4 * (s + 1) ≤ gN m1 C1 → (∀ i, i < 4 * s → aL m1 C1 i = nf i) → FS (S2 c) m o m1 o1 → (nn m1 + A.2.2 = nn m + g1 ∧ 16 * zz m1 + A.2.2 ≤ 16 * zz m + g1) → EvR G 2 uX1_add (zz m) (nn m) (fun r mm => r = some (.int (nI 1)) ∧ ∃ A' o', A'.1 = A.1 ∧ NS mm o' c A' (s + 1) (nfP nf s x.toInt64 x1 x2 x3) ∧ FS (S2 c) m o mm o' ∧ nn mm + A.2.2 = nn m + A'.2.2 ∧ 16 * zz mm + A.2.2 ≤ 16 * zz m + A'.2.2) 56 [(0, .ref A.1), (1, .int x), (2, .long x1), (4, .long x2), (6, .long x3), (8, .int (nI (s * 4)))] [] m1 := by
    intro m1 C1 g1 o1 hT1 hI1 hP1 hC1 ho1 hz1 hL1 hN1 hc1 hF ha1
    have hlc := hL1
    unfold LT at hlc
    have pT : gT m1 = gT m1 := rfl
    have pN : gN m1 = gN m1 := rfl
    have pP : gP m1 = gP m1 := rfl
    have pI : gI m1 = gI m1 := rfl
    have pz : zz m1 = zz m1 := rfl
    have pn : nn m1 = nn m1 := rfl
    have pE : ∀ b, b ≠ C1 → Eqa m1 m1 b := fun b _ => Eqa.rf m1 b
    have pC := hc1
    refine r_go (fun kk => e_aload_n 0 dX1_add_56 rfl kk) ?_
    refine r_go (fun kk => e_getP (some C1) dX1_add_57 fl_X1_15 rfl (hT1) (hP1) kk) ?_
    refine r_go (fun kk => e_iload 5 dX1_add_60 rfl kk) ?_
    refine r_go (fun kk => e_iload_n 1 dX1_add_62 rfl kk) ?_
    refine r_go (fun kk => e_i2l dX1_add_63 kk) ?_
    refine r_go (fun kk => e_lastN _ dX1_add_64 (by rw [pT]; exact hC1) (by rw [pN]; omega) (by rw [pN]; omega) rfl kk) ?_
    refine r_gen (fun mm => (gT mm = gT m1 ∧ gN mm = gN m1 ∧ gP mm = gP m1 ∧ gI mm = gI m1 ∧ zz mm = zz m1 ∧ nn mm = nn m1 ∧ (∀ b, b ≠ C1 → Eqa m1 mm b) ∧ ∀ i, i < 4 * s → aL mm C1 i = nf i) ∧ aL mm C1 (4 * s + 0) = x.toInt64) ⟨⟨pT, pN, pP, pI, pz, pn, fun b hb => (pE b hb).tr (eqa_sAL hb), fun i hi => (u2_na _ _ (by omega)).trans (pC i hi)⟩, by rw [show s * 4 = 4 * s + 0 by omega]; exact u2_eq _ _ _ _⟩ (fun z1 hy => ?_)
    obtain ⟨⟨pT, pN, pP, pI, pz, pn, pE, pC⟩, y0⟩ := hy
    refine r_go (fun kk => e_aload_n 0 dX1_add_65 rfl kk) ?_
    refine r_go (fun kk => e_getP (some C1) dX1_add_66 fl_X1_15 rfl (by rw [pT]; exact hT1) (by rw [pP]; exact hP1) kk) ?_
    refine r_go (fun kk => e_iload 5 dX1_add_69 rfl kk) ?_
    refine r_go (fun kk => e_ic (nI 1) dX1_add_71 (by decide) kk) ?_
    refine r_go (fun kk => e_iaddN dX1_add_72 kk) ?_
    refine r_go (fun kk => e_lload_n 2 dX1_add_73 rfl kk) ?_
    refine r_go (fun kk => e_lastN _ dX1_add_74 (by rw [pT]; exact hC1) (by rw [pN]; omega) (by rw [pN]; omega) rfl kk) ?_
    refine r_gen (fun mm => (gT mm = gT m1 ∧ gN mm = gN m1 ∧ gP mm = gP m1 ∧ gI mm = gI m1 ∧ zz mm = zz m1 ∧ nn mm = nn m1 ∧ (∀ b, b ≠ C1 → Eqa m1 mm b) ∧ ∀ i, i < 4 * s → aL mm C1 i = nf i) ∧ aL mm C1 (4 * s + 0) = x.toInt64 ∧ aL mm C1 (4 * s + 1) = x1) ⟨⟨pT, pN, pP, pI, pz, pn, fun b hb => (pE b hb).tr (eqa_sAL hb), fun i hi => (u2_na _ _ (by omega)).trans (pC i hi)⟩, (u2_na _ _ (by omega)).trans y0, by rw [show (s * 4) + 1 = 4 * s + 1 by omega]; exact u2_eq _ _ _ _⟩ (fun z2 hy => ?_)
    obtain ⟨⟨pT, pN, pP, pI, pz, pn, pE, pC⟩, y0, y1⟩ := hy
    refine r_go (fun kk => e_aload_n 0 dX1_add_75 rfl kk) ?_
    refine r_go (fun kk => e_getP (some C1) dX1_add_76 fl_X1_15 rfl (by rw [pT]; exact hT1) (by rw [pP]; exact hP1) kk) ?_
    refine r_go (fun kk => e_iload 5 dX1_add_79 rfl kk) ?_
    refine r_go (fun kk => e_ic (nI 2) dX1_add_81 (by decide) kk) ?_
    refine r_go (fun kk => e_iaddN dX1_add_82 kk) ?_
    refine r_go (fun kk => e_lload 3 dX1_add_83 rfl kk) ?_
    refine r_go (fun kk => e_lastN _ dX1_add_85 (by rw [pT]; exact hC1) (by rw [pN]; omega) (by rw [pN]; omega) rfl kk) ?_
    refine r_gen (fun mm => (gT mm = gT m1 ∧ gN mm = gN m1 ∧ gP mm = gP m1 ∧ gI mm = gI m1 ∧ zz mm = zz m1 ∧ nn mm = nn m1 ∧ (∀ b, b ≠ C1 → Eqa m1 mm b) ∧ ∀ i, i < 4 * s → aL mm C1 i = nf i) ∧ aL mm C1 (4 * s + 0) = x.toInt64 ∧ aL mm C1 (4 * s + 1) = x1 ∧ aL mm C1 (4 * s + 2) = x2) ⟨⟨pT, pN, pP, pI, pz, pn, fun b hb => (pE b hb).tr (eqa_sAL hb), fun i hi => (u2_na _ _ (by omega)).trans (pC i hi)⟩, (u2_na _ _ (by omega)).trans y0, (u2_na _ _ (by omega)).trans y1, by rw [show (s * 4) + 2 = 4 * s + 2 by omega]; exact u2_eq _ _ _ _⟩ (fun z3 hy => ?_)
    obtain ⟨⟨pT, pN, pP, pI, pz, pn, pE, pC⟩, y0, y1, y2⟩ := hy
    refine r_go (fun kk => e_aload_n 0 dX1_add_86 rfl kk) ?_
    refine r_go (fun kk => e_getP (some C1) dX1_add_87 fl_X1_15 rfl (by rw [pT]; exact hT1) (by rw [pP]; exact hP1) kk) ?_
    refine r_go (fun kk => e_iload 5 dX1_add_90 rfl kk) ?_
    refine r_go (fun kk => e_ic (nI 3) dX1_add_92 (by decide) kk) ?_
    refine r_go (fun kk => e_iaddN dX1_add_93 kk) ?_
    refine r_go (fun kk => e_lload 4 dX1_add_94 rfl kk) ?_
    refine r_go (fun kk => e_lastN _ dX1_add_96 (by rw [pT]; exact hC1) (by rw [pN]; omega) (by rw [pN]; omega) rfl kk) ?_
    refine r_gen (fun mm => (gT mm = gT m1 ∧ gN mm = gN m1 ∧ gP mm = gP m1 ∧ gI mm = gI m1 ∧ zz mm = zz m1 ∧ nn mm = nn m1 ∧ (∀ b, b ≠ C1 → Eqa m1 mm b) ∧ ∀ i, i < 4 * s → aL mm C1 i = nf i) ∧ aL mm C1 (4 * s + 0) = x.toInt64 ∧ aL mm C1 (4 * s + 1) = x1 ∧ aL mm C1 (4 * s + 2) = x2 ∧ aL mm C1 (4 * s + 3) = x3) ⟨⟨pT, pN, pP, pI, pz, pn, fun b hb => (pE b hb).tr (eqa_sAL hb), fun i hi => (u2_na _ _ (by omega)).trans (pC i hi)⟩, (u2_na _ _ (by omega)).trans y0, (u2_na _ _ (by omega)).trans y1, (u2_na _ _ (by omega)).trans y2, by rw [show (s * 4) + 3 = 4 * s + 3 by omega]; exact u2_eq _ _ _ _⟩ (fun z4 hy => ?_)
    obtain ⟨⟨pT, pN, pP, pI, pz, pn, pE, pC⟩, y0, y1, y2, y3⟩ := hy
    refine r_go (fun kk => e_aload_n 0 dX1_add_97 rfl kk) ?_
    refine r_go (fun kk => e_dup dX1_add_98 rfl kk) ?_
    refine r_go (fun kk => e_getIv (nI s) dX1_add_99 fl_X1_9 rfl (by rw [pT]; exact hT1) (by rw [pI]; exact hI1) kk) ?_
    refine r_go (fun kk => e_ic (nI 1) dX1_add_102 (by decide) kk) ?_
    refine r_go (fun kk => e_iaddN dX1_add_103 kk) ?_
    refine r_go (fun kk => e_putI (ci := 1) (k := 0) dX1_add_104 fl_X1_9 rfl (fun q h => by cases h; rfl) ⟨rfl, rfl⟩ (by rw [pT]; exact hT1) kk) ?_
    refine r_go (fun kk => e_ic (nI 1) dX1_add_107 (by decide) kk) ?_
    refine r_ret ⟨rfl, (A.1, C1, g1), o1, rfl, ⟨⟨?_, ho1.1, ?_⟩, ⟨?_, ho1.2, ?_⟩, ?_, u2_eq (gI z4) 20 A.1 (nI (s + 1)), by omega, ?_, ?_, fun i hi => ?_⟩, hF.tr (FS.tr (m1 := z4) (o1 := o1) ?_ ?_), ?_, ?_⟩ (e_retI dX1_add_108 rfl rfl rfl)
    · show gT z4 A.1 = 2
      rw [pT]; exact hT1
    · show A.1 < zz z4
      rw [pz]; exact hz1.1
    · show gT z4 C1 = 13
      rw [pT]; exact hC1
    · show C1 < zz z4
      rw [pz]; exact hz1.2
    · show gP z4 21 A.1 = some C1
      rw [pP]; exact hP1
    · show LT (gN z4 C1) g1
      rw [pN]; exact hL1
    · show 4 * (s + 1) ≤ gN z4 C1
      rw [pN]; exact hN1
    · show aL z4 C1 i = _
      unfold nfP
      by_cases e0 : i = 4 * s
      · rw [if_pos e0, e0]; exact y0
      · rw [if_neg e0]
        by_cases e1 : i = 4 * s + 1
        · rw [if_pos e1, e1]; exact y1
        · rw [if_neg e1]
          by_cases e2 : i = 4 * s + 2
          · rw [if_pos e2, e2]; exact y2
          · rw [if_neg e2]
            by_cases e3 : i = 4 * s + 3
            · rw [if_pos e3, e3]; exact y3
            · rw [if_neg e3]
              exact pC i (by omega)
    · exact FS.wr (a := C1) (Or.inr ho1.2) pT pN pz pE
    · exact FS.wr (a := A.1) (Or.inl ho1.1) rfl rfl rfl (fun b hb => eqa_sI hb)
    · show nn z4 + A.2.2 = nn m + g1
      rw [pn]; exact ha1.1
    · show 16 * zz z4 + A.2.2 ≤ 16 * zz m + g1
      rw [pz]; exact ha1.2
  refine r_go (fun kk => e_lvs (lv' := [(0, .ref A.1), (1, .int x), (2, .long x1), (4, .long x2), (6, .long x3)]) rfl kk) ?_
  refine r_go (fun kk => e_aload_n 0 dX1_add_0 rfl kk) ?_
  refine r_go (fun kk => e_getIv (nI s) dX1_add_1 fl_X1_9 rfl (hN.1.1) (hN.2.2.2.1) kk) ?_
  refine r_go (fun kk => e_sipush (v := nI 1000) dX1_add_4 (by decide) kk) ?_
  refine r_go (fun kk => e_icmp_ltN 12 dX1_add_7 (by decide) (by omega) (by omega) (fun _ => kk) (fun h => absurd h (by omega))) ?_
  refine r_go (fun kk => e_aload_n 0 dX1_add_12 rfl kk) ?_
  refine r_go (fun kk => e_getIv (nI s) dX1_add_13 fl_X1_9 rfl (hN.1.1) (hN.2.2.2.1) kk) ?_
  refine r_go (fun kk => e_ic (nI 4) dX1_add_16 (by decide) kk) ?_
  refine r_go (fun kk => e_imulN dX1_add_17 kk) ?_
  refine r_go (fun kk => e_istore (lv' := [(8, .int (nI (s * 4))), (0, .ref A.1), (1, .int x), (2, .long x1), (4, .long x2), (6, .long x3)]) dX1_add_18 (by decide) rfl kk) ?_
  refine r_go (fun kk => e_iload 0 dX1_add_20 rfl kk) ?_
  refine r_go (fun kk => e_ic (nI 4) dX1_add_22 (by decide) kk) ?_
  refine r_go (fun kk => e_iaddN dX1_add_23 kk) ?_
  refine r_go (fun kk => e_aload_n 1 dX1_add_24 rfl kk) ?_
  refine r_go (fun kk => e_getP (some A.2.1) dX1_add_25 fl_X1_15 rfl (hN.1.1) (hN.2.2.1) kk) ?_
  refine r_go (fun kk => e_alen (n := nI (gN m A.2.1)) dX1_add_28 hN.2.1.1 (by omega) rfl kk) ?_
  refine r_bl (fun ka kb => e_icmp_leN 56 dX1_add_29 (by decide) (by omega) (by have := hN.2.2.2.2.2.1; unfold LT at this; omega) ka kb) (fun h29 => ?_) (fun h29 => ?_)
  · skip
    have h29' := Nat.not_lt.mpr h29
    refine r_go (fun kk => e_sub [1, 2, 3, 4, 5, 0] rfl kk) ?_
    exact C m A.2.1 A.2.2 o hN.1.1 hN.2.2.2.1 hN.2.2.1 hN.2.1.1 ⟨hN.1.2.1, hN.2.1.2.1⟩ ⟨hN.1.2.2, hN.2.1.2.2⟩ hlt0 (by omega) hN.2.2.2.2.2.2.2 (FS.rf _ m o) ⟨rfl, Nat.le_refl _⟩
  · skip
    have h29' := Nat.not_le.mpr h29
    obtain ⟨K, hK1, hK2, hlb, hmin, hK8⟩ : ∃ K, gN m A.2.1 < K ∧ K ≤ 4000 ∧ LT K (A.2.2 + K) ∧ mnI (nI (2 * gN m A.2.1)) (nI 4000) = nI K ∧ 4 * (s + 1) ≤ K := by
      unfold LT at hlt0
      rcases hlt0 with ⟨q1, q2⟩ | ⟨q1, q2⟩ | ⟨q1, q2⟩ | ⟨q1, q2⟩ | ⟨q1, q2⟩
      · exact ⟨512, by omega, by omega, by unfold LT; omega, by rw [q1]; rfl, by omega⟩
      · exact ⟨1024, by omega, by omega, by unfold LT; omega, by rw [q1]; rfl, by omega⟩
      · exact ⟨2048, by omega, by omega, by unfold LT; omega, by rw [q1]; rfl, by omega⟩
      · exact ⟨4000, by omega, by omega, by unfold LT; omega, by rw [q1]; rfl, by omega⟩
      · omega
    refine r_go (fun kk => e_aload_n 1 dX1_add_32 rfl kk) ?_
    refine r_go (fun kk => e_aload_n 1 dX1_add_33 rfl kk) ?_
    refine r_go (fun kk => e_getP (some A.2.1) dX1_add_34 fl_X1_15 rfl (hN.1.1) (hN.2.2.1) kk) ?_
    refine r_go (fun kk => e_ic (nI 2) dX1_add_37 (by decide) kk) ?_
    refine r_go (fun kk => e_aload_n 1 dX1_add_38 rfl kk) ?_
    refine r_go (fun kk => e_getP (some A.2.1) dX1_add_39 fl_X1_15 rfl (hN.1.1) (hN.2.2.1) kk) ?_
    refine r_go (fun kk => e_alen (n := nI (gN m A.2.1)) dX1_add_42 hN.2.1.1 (by omega) rfl kk) ?_
    refine r_go (fun kk => e_imulN dX1_add_43 kk) ?_
    refine r_go (fun kk => e_sipush (v := nI 4000) dX1_add_44 (by decide) kk) ?_
    refine r_go (fun kk => e_jmin dX1_add_47 lkm_X1_25 (Nat.le_of_ble_eq_true rfl) kk) ?_
    refine r_go (fun kk => e_iv (w := nI K) hmin kk) ?_
    refine r_go (fun kk => e_callS (st := [.ref A.1]) (st1 := [.ref (zz m), .ref A.1]) (As := [.ref A.2.1, .int (nI K)]) (a_copyL (G := G) (N := K) hN.2.1.1 hN.2.1.2.2 (by omega) (by omega)) dX1_add_50 (by decide) cm_J7_copyOf_c38d5 lk_X1_31 sm_J7_copyOf_c38d5 rfl rfl (Nat.le_of_ble_eq_true rfl) rfl kk) ?_
    refine r_go (fun kk => e_putP (ci := 1) (k := 1) (some (zz m)) dX1_add_53 fl_X1_15 rfl (fun q h => by cases h; rfl) ⟨rfl, rfl⟩ rfl (show gT (nw m 13 K) A.1 = 2 from (vu_ne _ _ (Nat.ne_of_lt hN.1.2.2)).trans hN.1.1) kk) ?_
    refine r_go (fun kk => e_sub [1, 2, 3, 4, 5, 0] rfl kk) ?_
    refine C _ (zz m) (A.2.2 + K) (fun a => if a = zz m then c + 1 else o a) ?_ ?_ (u2_eq (z2 (gP m) (zz m) none) 21 A.1 (some (zz m))) (vu_eq _ _ _) ⟨(if_neg (Nat.ne_of_lt hN.1.2.2)).trans hN.1.2.1, if_pos rfl⟩ ⟨Nat.lt_succ_of_lt hN.1.2.2, Nat.lt_succ_self _⟩ ?_ ?_ (fun i hi => ?_) ⟨Nat.le_succ _, fun a ha => ⟨if_neg (Nat.ne_of_lt ha), vu_ne _ _ (Nat.ne_of_lt ha), vu_ne _ _ (Nat.ne_of_lt ha), fun q => ?_⟩, fun a h1 h2 => ?_⟩ ⟨?_, ?_⟩
    · exact (vu_ne _ _ (Nat.ne_of_lt hN.1.2.2)).trans hN.1.1
    · show z2 (gI m) (zz m) 0 20 A.1 = nI s
      unfold z2
      rw [if_neg (Nat.ne_of_lt hN.1.2.2)]
      exact hN.2.2.2.1
    · show LT (va_up (gN m) (zz m) K (zz m)) _
      rw [vu_eq]
      exact hlb
    · show 4 * (s + 1) ≤ va_up (gN m) (zz m) K (zz m)
      rw [vu_eq]
      exact hK8
    · show va_up (zr (aL m) (zz m) 0) (zz m) (va_cpy (aL m A.2.1) (aL (nw m 13 K) (zz m)) 0 0 (gN m A.2.1)) (zz m) i = nf i
      rw [vu_eq, va_cpy, if_pos (by omega), Nat.sub_zero, Nat.zero_add]
      exact hN.2.2.2.2.2.2.2 i hi
    · have hne : a ≠ zz m := Nat.ne_of_lt ha
      have hna : a ≠ A.1 := fun e => q (Or.inl (by rw [e]; exact hN.1.2.1))
      refine ⟨fun f => ?_, fun f => ?_, fun f => ?_, ?_, ?_, ?_⟩
      · show z2 (gI m) (zz m) 0 f a = _; unfold z2; rw [if_neg hne]
      · show z2 (gL m) (zz m) 0 f a = _; unfold z2; rw [if_neg hne]
      · show u2 (z2 (gP m) (zz m) none) 21 A.1 (some (zz m)) f a = _; rw [u2_na _ _ hna]; unfold z2; rw [if_neg hne]
      · show zr (aI m) (zz m) 0 a = _; funext i; unfold zr; rw [if_neg hne]
      · show va_up (zr (aL m) (zz m) 0) (zz m) _ a = _; rw [vu_ne _ _ hne]; funext i; unfold zr; rw [if_neg hne]
      · show zr (aP m) (zz m) none a = _; funext i; unfold zr; rw [if_neg hne]
    · have h2 : a < zz m + 1 := h2
      rw [show a = zz m by omega]
      exact Or.inr (if_pos rfl)
    · show nn m + K + A.2.2 = nn m + (A.2.2 + K)
      omega
    · show 16 * (zz m + 1) + A.2.2 ≤ 16 * zz m + (A.2.2 + K)
      have h16 := hN.2.2.2.2.2.1
      unfold LT at h16
      omega

end Class20
