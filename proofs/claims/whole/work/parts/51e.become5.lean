/-! the class: a kernel becomes another -/
section Un2
variable {S : Nat → Prop} {M M2 : Mem} {Y Y2 : YY} {kf : KF} {vf : VF}
theorem FS.atr (h : FS S M Y.2.2.2 M2 Y2.2.2.2) {a c : Nat} (hc : Y.2.2.2 a = Y.2.1 + c) (hS : ¬ S (Y.2.1 + c)) (ha : a < zz M) : gN M2 a = gN M a ∧ Eqa M M2 a := by
  obtain ⟨a1, a2, a3, a4⟩ := h.2.1 a ha
  exact ⟨a3, a4 (by rw [hc]; exact hS)⟩
theorem TOK.un {t : Nat} (h : TOK M Y kf vf t) (ht : t < 200) (hT : KT M Y) (hF : FS S M Y.2.2.2 M2 Y2.2.2.2) (h9 : ¬ S (Y.2.1 + (9 + t))) (h73 : ¬ S (Y.2.1 + (273 + t))) (e9 : Y2.1 (9 + t) = Y.1 (9 + t)) (e73 : Y2.1 (273 + t) = Y.1 (273 + t)) : TOK M2 Y2 kf vf t := by
  obtain ⟨h1, h2, h3⟩ := h
  have q := (hF.atr (hT.ow (r := 9 + t) (by omega)) h9 (hT.1 (9 + t) (by omega)).2.2).2
  refine ⟨fun w hw => ?_, ?_, fun h0 => ?_⟩
  · rw [e9, q.1]
    exact h1 w hw
  · rw [e9, q.2.1]
    exact h2
  · obtain ⟨y1, y2, y3⟩ := h3 h0
    have hz : Y.1 (273 + t) < zz M := by
      rcases (hT.2.2.2.2.1 t ht).2.2 with z | z
      · rw [z.1] at y1
        cases y1
      · exact z.2.2.2.2.2
    have q2 := (hF.atr (hT.injS (r := 0) ht y1) h73 hz).2
    rw [e9, e73, q.2.2.1, q2.2.2.2.1]
    exact ⟨y1, y2, y3⟩
theorem POK.un {p : Nat} (h : POK M Y kf p) (hp : p < 32) (hT : KT M Y) (hF : FS S M Y.2.2.2 M2 Y2.2.2.2) (h9 : ¬ S (Y.2.1 + (209 + p))) (h41 : ¬ S (Y.2.1 + (241 + p))) (e9 : Y2.1 (209 + p) = Y.1 (209 + p)) (e41 : Y2.1 (241 + p) = Y.1 (241 + p)) : POK M2 Y2 kf p := by
  obtain ⟨h1, h2, h3⟩ := h
  have q := hF.atr (hT.ow (r := 209 + p) (by omega)) h9 (hT.1 (209 + p) (by omega)).2.2
  have q2 := hF.atr (hT.ow (r := 241 + p) (by omega)) h41 (hT.1 (241 + p) (by omega)).2.2
  refine ⟨?_, ?_, fun i hi => ?_⟩
  · rw [e9, q.2.1]
    exact h1
  · rw [e41, q2.1]
    exact h2
  · rw [e41, q2.2.2.2.2.1]
    exact h3 i hi
theorem ROK.un {ρ : Nat} (h : ROK M Y ρ kf) (hT : KT M Y) (hF : FS S M Y.2.2.2 M2 Y2.2.2.2) (h9 : ¬ S (Y.2.1 + 3)) (h41 : ¬ S (Y.2.1 + 4)) (e9 : Y2.1 3 = Y.1 3) (e41 : Y2.1 4 = Y.1 4) : ROK M2 Y2 ρ kf := by
  obtain ⟨h1, h2, h3⟩ := h
  have q := hF.atr (hT.ow (r := 3) (by omega)) h9 (hT.1 3 (by omega)).2.2
  have q2 := hF.atr (hT.ow (r := 4) (by omega)) h41 (hT.1 4 (by omega)).2.2
  refine ⟨?_, ?_, fun i hi => ?_⟩
  · rw [e9, q.2.1]
    exact h1
  · rw [e41, q2.1]
    exact h2
  · rw [e41, q2.2.2.2.2.1]
    exact h3 i hi
theorem Sx.sm {r0 : Nat} (h : Sx r0 Y Y2) (hr : r0 = 4 ∨ 241 ≤ r0) : Sm Y Y2 := fun r hr2 => h r (by omega)
theorem KU.sm {Z : Mem × YY} (h : KU Z M Y2) (hs : Sm Y Y2) : (∀ r, (r < 4 ∨ (5 ≤ r ∧ r < 241)) → gT M (Y.1 r) = tyR r) ∧ (gP M 0 (Y.1 0) = some (Y.1 1) ∧ gP M 1 (Y.1 0) = some (Y.1 2) ∧ gP M 2 (Y.1 0) = some (Y.1 3) ∧ gP M 3 (Y.1 0) = some (Y.1 5) ∧ gP M 4 (Y.1 0) = some (Y.1 6) ∧ gP M 5 (Y.1 0) = some (Y.1 7) ∧ gP M 6 (Y.1 0) = some (Y.1 8)) ∧ (∀ p, p < 32 → aP M (Y.1 2) p = some (Y.1 (209 + p))) ∧ (∀ t, t < 200 → aP M (Y.1 1) t = some (Y.1 (9 + t))) ∧ (gN M (Y.1 1) = 200 ∧ gN M (Y.1 2) = 32 ∧ gN M (Y.1 5) = 100 ∧ gN M (Y.1 6) = 4 ∧ gN M (Y.1 7) = 200 ∧ gN M (Y.1 8) = 12) := by
  have e0 := hs 0 (by omega)
  have e1 := hs 1 (by omega)
  have e2 := hs 2 (by omega)
  have e3 := hs 3 (by omega)
  have e5 := hs 5 (by omega)
  have e6 := hs 6 (by omega)
  have e7 := hs 7 (by omega)
  have e8 := hs 8 (by omega)
  refine ⟨fun r hr => ?_, ?_, fun p hp => ?_, fun t ht => ?_, ?_⟩
  · rw [← hs r hr]
    exact h.T r (by omega)
  · rw [← e0, ← e1, ← e2, ← e3, ← e5, ← e6, ← e7, ← e8]
    exact ⟨h.1.2.2.1.1, h.1.2.2.1.2.1, h.1.2.2.1.2.2.1, h.1.2.2.1.2.2.2.1, h.1.2.2.1.2.2.2.2.1, h.1.2.2.1.2.2.2.2.2.1, h.1.2.2.1.2.2.2.2.2.2.1⟩
  · rw [← e2, ← hs (209 + p) (by omega)]
    exact h.pp hp
  · rw [← e1, ← hs (9 + t) (by omega)]
    exact h.pt ht
  · rw [← e1, ← e2, ← e5, ← e6, ← e7, ← e8]
    exact h.1.2.1
end Un2
def BK (Z : Mem × YY) (M : Mem) (Y Yc : YY) (ρ : Nat) (kf : KF) (vf : VF) (n : Nat) : Prop := Sm Y Yc ∧ KU Z M Yc ∧ (∀ t, t < n → TOK M Yc kf vf t) ∧ (∀ p, p < 32 → POK M Yc kf p) ∧ ROK M Yc ρ kf
theorem BK.wr {Z : Mem × YY} {M M' : Mem} {Y Yc : YY} {ρ n r0 : Nat} {kf : KF} {vf : VF} (h : BK Z M Y Yc ρ kf vf n) (hn : n ≤ 200) (hr : r0 = 0 ∨ r0 = 5 ∨ r0 = 6 ∨ r0 = 7 ∨ r0 = 8) (hu : KU Z M' Yc) (hF : FS (fun q => q = Yc.2.1 + r0) M Yc.2.2.2 M' Yc.2.2.2) : BK Z M' Y Yc ρ kf vf n :=
  ⟨h.1, hu, fun t ht => (h.2.2.1 t ht).un (by omega) h.2.1.1 hF (fun q => by omega) (fun q => by omega) rfl rfl, fun p hp => (h.2.2.2.1 p hp).un hp h.2.1.1 hF (fun q => by omega) (fun q => by omega) rfl rfl, h.2.2.2.2.un h.2.1.1 hF (fun q => by omega) (fun q => by omega) rfl rfl⟩
theorem BK.sI {Z : Mem × YY} {M : Mem} {Y Yc : YY} {ρ n f : Nat} {kf : KF} {vf : VF} {x : Int32} (h : BK Z M Y Yc ρ kf vf n) (hn : n ≤ 200) (hf : f ≠ 80) {a : Nat} (ha : Yc.1 0 = a) : BK Z (sI M f a x) Y Yc ρ kf vf n := ha ▸ h.wr hn (r0 := 0) (by omega) (h.2.1.sI hf (by omega)) (FS.wr (a := Yc.1 0) (h.2.1.1.ow (r := 0) (by omega)) rfl rfl rfl (fun b hb => eqa_sI hb))
theorem BK.sRI {Z : Mem × YY} {M : Mem} {Y Yc : YY} {ρ n r0 : Nat} {kf : KF} {vf : VF} {g : Nat → Int32} (h : BK Z M Y Yc ρ kf vf n) (hn : n ≤ 200) (hr : r0 = 5 ∨ r0 = 6 ∨ r0 = 7 ∨ r0 = 8) {a : Nat} (ha : Yc.1 r0 = a) : BK Z (sRI M a g) Y Yc ρ kf vf n := ha ▸ h.wr hn (r0 := r0) (by omega) (h.2.1.rw' (h.2.1.1.ow (r := r0) (by omega)) (by omega)) (FS.wr (a := Yc.1 r0) (h.2.1.1.ow (r := r0) (by omega)) rfl rfl rfl (fun b hb => eqa_sRI hb))
section Class27
variable {G : GG} {m : Mem} {Y Y' : YY} {ρ n : Nat} {kf : KF} {vf : VF}

set_option maxRecDepth 100000 in
set_option maxHeartbeats 4000000 in
theorem k_become (hu : KU (m, Y) m Y) (hS : KS m Y' ρ kf vf n) (hO : Y'.2.2.2 = Y.2.2.2) (hd : ∀ c, Ow Y'.2.1 c → ¬ Ow Y.2.1 c) (hW : WF kf n) (hH : ∀ t, t < n → gH kf t) : EvC G 3 uX0_become [.ref (Y.1 0), .ref (Y'.1 0)] m (fun r mm => r = none ∧ ∃ Y2, Sm Y Y2 ∧ KQ (m, Y) mm Y2 ρ kf vf n) := by
  refine EvC.of (by decide +kernel) (Nat.le_of_ble_eq_true rfl) ?_
  have hn2 := hS.q.n2
  obtain ⟨c, hc, h3⟩ := hW.2.2.2.2.2.2.2.1
  have E3 : ∀ (M : Mem) (Yc : YY), Sm Y Yc → KU (m, Y) M Yc → (∀ t, t < n → TOK M Yc kf vf t) → (∀ p, p < 32 → POK M Yc kf p) → EvR G 3 uX0_become (zz m) (nn m) (fun r mm => r = none ∧ ∃ Y2, Sm Y Y2 ∧ KQ (m, Y) mm Y2 ρ kf vf n) 60 [(0, .ref (Y.1 0)), (1, .ref (Y'.1 0))] [] M := by
    intro M Yc hX hU hT hP
    have sm0 := hU.sm hX
    have hq0 := hS.src hO hd hU.2.2
    have hb0 : Yc.2.1 = Y.2.1 := hU.2.2.2.1
    refine r_go (fun kk => e_aload_n 0 dX0_become_60 rfl kk) ?_
    refine r_go (fun kk => e_getP (some (Y.1 3)) dX0_become_61 fl_X0_26 rfl (sm0.1 0 (by omega)) (sm0.2.1.2.2.1) kk) ?_
    refine r_go (fun kk => e_aload_n 1 dX0_become_64 rfl kk) ?_
    refine r_go (fun kk => e_getP (some (Y'.1 3)) dX0_become_65 fl_X0_26 rfl (hq0.T 0 (by decide)) (hq0.1.2.2.1.2.2.1) kk) ?_
    obtain ⟨_, z0, ⟨rfl, Y1, g1, g2, g3, g4⟩, E60⟩ := k_rbecome (G := G) (Y' := rY Y' Yc.2.2.2) hU.rf hq0.ks rfl (fun c h => by rw [hb0]; exact hd c h) h3 hc
    rw [hX 3 (by omega)] at E60
    refine r_go (fun kk => e_callV (ci := 3) (st := []) (st1 := []) (As := [.ref (Y'.1 3)]) (E60) dX0_become_68 (by decide) cm_X3_become lk_X0_80 im_X3_become rfl sel_X3_become (sm0.1 3 (by omega)) rfl rfl (Nat.le_of_ble_eq_true rfl) rfl kk) ?_
    have hX1 : Sm Y Y1 := hX.tr (g1.sm (by omega))
    have hk0 : BK (m, Y) z0 Y Y1 ρ kf vf n := ⟨hX1, hU.tr g2, fun t ht => (hT t ht).un (by omega) hU.1 g3 (fun q => by unfold Sr at q; omega) (fun q => by unfold Sr at q; omega) (g1 _ (by omega)) (g1 _ (by omega)), fun p hp => (hP p hp).un hp hU.1 g3 (fun q => by unfold Sr at q; omega) (fun q => by unfold Sr at q; omega) (g1 _ (by omega)) (g1 _ (by omega)), g4⟩
    have sm1 := hk0.2.1.sm hk0.1
    have hq1 := hS.src hO hd hk0.2.1.2.2
    refine r_go (fun kk => e_aload_n 1 dX0_become_71 rfl kk) ?_
    refine r_go (fun kk => e_getP (some (Y'.1 5)) dX0_become_72 fl_X0_30 rfl (hq1.T 0 (by decide)) (hq1.1.2.2.1.2.2.2.1) kk) ?_
    refine r_go (fun kk => e_ic (nI 0) dX0_become_75 (by decide) kk) ?_
    refine r_go (fun kk => e_aload_n 0 dX0_become_76 rfl kk) ?_
    refine r_go (fun kk => e_getP (some (Y.1 5)) dX0_become_77 fl_X0_30 rfl (sm1.1 0 (by omega)) (sm1.2.1.2.2.2.1) kk) ?_
    refine r_go (fun kk => e_ic (nI 0) dX0_become_80 (by decide) kk) ?_
    refine r_go (fun kk => e_bipush (v := nI 100) dX0_become_81 (by decide) kk) ?_
    refine r_go (fun kk => e_copyI (t := 12) dX0_become_83 lkm_X0_83 nat_arraycopy sm_arraycopy ini_J10 (hq1.T 5 (by decide)) (sm1.1 5 (by omega)) (by omega) (by rw [show gN z0 (Y'.1 5) = 100 from hq1.1.2.1.2.2.1]; decide) (by rw [sm1.2.2.2.2.2.2.1]; decide) (by rw [show gN z0 (Y'.1 5) = 100 from hq1.1.2.1.2.2.1]; decide) (by rw [sm1.2.2.2.2.2.2.1]; decide) (fun _ _ => rfl) (Nat.le_of_ble_eq_true rfl) kk) ?_
    refine r_gen (fun mm => BK (m, Y) mm Y Y1 ρ kf vf n ∧ (∀ l, l < 100 → aI mm (Y.1 5) l = kf (240 + l))) ⟨hk0.sRI hn2 (r0 := 5) (by omega) (hX1 5 (by omega)), fun l hl => by show va_up (aI z0) (Y.1 5) _ (Y.1 5) l = _; rw [vu_eq, cpy_in _ _ hl]; exact hq1.2.1.2.1.2.2.2 l hl⟩ (fun z1 hy => ?_)
    obtain ⟨hk1, f0⟩ := hy
    have sm1 := hk1.2.1.sm hk1.1
    have hq1 := hS.src hO hd hk1.2.1.2.2
    refine r_go (fun kk => e_aload_n 1 dX0_become_86 rfl kk) ?_
    refine r_go (fun kk => e_getP (some (Y'.1 6)) dX0_become_87 fl_X0_34 rfl (hq1.T 0 (by decide)) (hq1.1.2.2.1.2.2.2.2.1) kk) ?_
    refine r_go (fun kk => e_ic (nI 0) dX0_become_90 (by decide) kk) ?_
    refine r_go (fun kk => e_aload_n 0 dX0_become_91 rfl kk) ?_
    refine r_go (fun kk => e_getP (some (Y.1 6)) dX0_become_92 fl_X0_34 rfl (sm1.1 0 (by omega)) (sm1.2.1.2.2.2.2.1) kk) ?_
    refine r_go (fun kk => e_ic (nI 0) dX0_become_95 (by decide) kk) ?_
    refine r_go (fun kk => e_ic (nI 4) dX0_become_96 (by decide) kk) ?_
    refine r_go (fun kk => e_copyI (t := 12) dX0_become_97 lkm_X0_83 nat_arraycopy sm_arraycopy ini_J10 (hq1.T 6 (by decide)) (sm1.1 6 (by omega)) (by omega) (by rw [show gN z1 (Y'.1 6) = 4 from hq1.1.2.1.2.2.2.1]; decide) (by rw [sm1.2.2.2.2.2.2.2.1]; decide) (by rw [show gN z1 (Y'.1 6) = 4 from hq1.1.2.1.2.2.2.1]; decide) (by rw [sm1.2.2.2.2.2.2.2.1]; decide) (fun _ _ => rfl) (Nat.le_of_ble_eq_true rfl) kk) ?_
    refine r_gen (fun mm => BK (m, Y) mm Y Y1 ρ kf vf n ∧ (∀ l, l < 100 → aI mm (Y.1 5) l = kf (240 + l)) ∧ (∀ l, l < 4 → aI mm (Y.1 6) l = kf (7 + l))) ⟨hk1.sRI hn2 (r0 := 6) (by omega) (hX1 6 (by omega)), fun l hl => by show va_up (aI z1) (Y.1 6) _ (Y.1 5) l = _; rw [vu_ne _ _ (by rw [← hX1 6 (by omega), ← hX1 5 (by omega)]; exact hk1.2.1.1.inj (by omega) (by omega) (by omega))]; exact f0 l hl, fun l hl => by show va_up (aI z1) (Y.1 6) _ (Y.1 6) l = _; rw [vu_eq, cpy_in _ _ hl]; exact hq1.2.1.2.1.1 l hl⟩ (fun z2 hy => ?_)
    obtain ⟨hk2, f0, f1⟩ := hy
    have sm2 := hk2.2.1.sm hk2.1
    have hq2 := hS.src hO hd hk2.2.1.2.2
    refine r_go (fun kk => e_aload_n 1 dX0_become_100 rfl kk) ?_
    refine r_go (fun kk => e_getP (some (Y'.1 7)) dX0_become_101 fl_X0_37 rfl (hq2.T 0 (by decide)) (hq2.1.2.2.1.2.2.2.2.2.1) kk) ?_
    refine r_go (fun kk => e_ic (nI 0) dX0_become_104 (by decide) kk) ?_
    refine r_go (fun kk => e_aload_n 0 dX0_become_105 rfl kk) ?_
    refine r_go (fun kk => e_getP (some (Y.1 7)) dX0_become_106 fl_X0_37 rfl (sm2.1 0 (by omega)) (sm2.2.1.2.2.2.2.2.1) kk) ?_
    refine r_go (fun kk => e_ic (nI 0) dX0_become_109 (by decide) kk) ?_
    refine r_go (fun kk => e_sipush (v := nI 200) dX0_become_110 (by decide) kk) ?_
    refine r_go (fun kk => e_copyI (t := 12) dX0_become_113 lkm_X0_83 nat_arraycopy sm_arraycopy ini_J10 (hq2.T 7 (by decide)) (sm2.1 7 (by omega)) (by omega) (by rw [show gN z2 (Y'.1 7) = 200 from hq2.1.2.1.2.2.2.2.1]; decide) (by rw [sm2.2.2.2.2.2.2.2.2.1]; decide) (by rw [show gN z2 (Y'.1 7) = 200 from hq2.1.2.1.2.2.2.2.1]; decide) (by rw [sm2.2.2.2.2.2.2.2.2.1]; decide) (fun _ _ => rfl) (Nat.le_of_ble_eq_true rfl) kk) ?_
    refine r_gen (fun mm => BK (m, Y) mm Y Y1 ρ kf vf n ∧ (∀ l, l < 100 → aI mm (Y.1 5) l = kf (240 + l)) ∧ (∀ l, l < 4 → aI mm (Y.1 6) l = kf (7 + l)) ∧ (∀ l, l < 200 → nI l < kf 5 → aI mm (Y.1 7) l = kf (16 + l))) ⟨hk2.sRI hn2 (r0 := 7) (by omega) (hX1 7 (by omega)), fun l hl => by show va_up (aI z2) (Y.1 7) _ (Y.1 5) l = _; rw [vu_ne _ _ (by rw [← hX1 7 (by omega), ← hX1 5 (by omega)]; exact hk2.2.1.1.inj (by omega) (by omega) (by omega))]; exact f0 l hl, fun l hl => by show va_up (aI z2) (Y.1 7) _ (Y.1 6) l = _; rw [vu_ne _ _ (by rw [← hX1 7 (by omega), ← hX1 6 (by omega)]; exact hk2.2.1.1.inj (by omega) (by omega) (by omega))]; exact f1 l hl, fun l hl h2 => by show va_up (aI z2) (Y.1 7) _ (Y.1 7) l = _; rw [vu_eq, cpy_in _ _ hl]; exact hq2.2.1.2.1.2.1 l hl h2⟩ (fun z3 hy => ?_)
    obtain ⟨hk3, f0, f1, f2⟩ := hy
    have sm3 := hk3.2.1.sm hk3.1
    have hq3 := hS.src hO hd hk3.2.1.2.2
    refine r_go (fun kk => e_aload_n 1 dX0_become_116 rfl kk) ?_
    refine r_go (fun kk => e_getP (some (Y'.1 8)) dX0_become_117 fl_X0_40 rfl (hq3.T 0 (by decide)) (hq3.1.2.2.1.2.2.2.2.2.2.1) kk) ?_
    refine r_go (fun kk => e_ic (nI 0) dX0_become_120 (by decide) kk) ?_
    refine r_go (fun kk => e_aload_n 0 dX0_become_121 rfl kk) ?_
    refine r_go (fun kk => e_getP (some (Y.1 8)) dX0_become_122 fl_X0_40 rfl (sm3.1 0 (by omega)) (sm3.2.1.2.2.2.2.2.2) kk) ?_
    refine r_go (fun kk => e_ic (nI 0) dX0_become_125 (by decide) kk) ?_
    refine r_go (fun kk => e_bipush (v := nI 12) dX0_become_126 (by decide) kk) ?_
    refine r_go (fun kk => e_copyI (t := 12) dX0_become_128 lkm_X0_83 nat_arraycopy sm_arraycopy ini_J10 (hq3.T 8 (by decide)) (sm3.1 8 (by omega)) (by omega) (by rw [show gN z3 (Y'.1 8) = 12 from hq3.1.2.1.2.2.2.2.2]; decide) (by rw [sm3.2.2.2.2.2.2.2.2.2]; decide) (by rw [show gN z3 (Y'.1 8) = 12 from hq3.1.2.1.2.2.2.2.2]; decide) (by rw [sm3.2.2.2.2.2.2.2.2.2]; decide) (fun _ _ => rfl) (Nat.le_of_ble_eq_true rfl) kk) ?_
    refine r_gen (fun mm => BK (m, Y) mm Y Y1 ρ kf vf n ∧ (∀ l, l < 100 → aI mm (Y.1 5) l = kf (240 + l)) ∧ (∀ l, l < 4 → aI mm (Y.1 6) l = kf (7 + l)) ∧ (∀ l, l < 200 → nI l < kf 5 → aI mm (Y.1 7) l = kf (16 + l)) ∧ (∀ l, l < 12 → aI mm (Y.1 8) l = kf (220 + l))) ⟨hk3.sRI hn2 (r0 := 8) (by omega) (hX1 8 (by omega)), fun l hl => by show va_up (aI z3) (Y.1 8) _ (Y.1 5) l = _; rw [vu_ne _ _ (by rw [← hX1 8 (by omega), ← hX1 5 (by omega)]; exact hk3.2.1.1.inj (by omega) (by omega) (by omega))]; exact f0 l hl, fun l hl => by show va_up (aI z3) (Y.1 8) _ (Y.1 6) l = _; rw [vu_ne _ _ (by rw [← hX1 8 (by omega), ← hX1 6 (by omega)]; exact hk3.2.1.1.inj (by omega) (by omega) (by omega))]; exact f1 l hl, fun l hl h2 => by show va_up (aI z3) (Y.1 8) _ (Y.1 7) l = _; rw [vu_ne _ _ (by rw [← hX1 8 (by omega), ← hX1 7 (by omega)]; exact hk3.2.1.1.inj (by omega) (by omega) (by omega))]; exact f2 l hl h2, fun l hl => by show va_up (aI z3) (Y.1 8) _ (Y.1 8) l = _; rw [vu_eq, cpy_in _ _ hl]; exact hq3.2.1.2.1.2.2.1 l hl⟩ (fun z4 hy => ?_)
    obtain ⟨hk4, f0, f1, f2, f3⟩ := hy
    have sm4 := hk4.2.1.sm hk4.1
    have hq4 := hS.src hO hd hk4.2.1.2.2
    refine r_go (fun kk => e_aload_n 0 dX0_become_131 rfl kk) ?_
    refine r_go (fun kk => e_aload_n 1 dX0_become_132 rfl kk) ?_
    refine r_go (fun kk => e_getIv (nI n) dX0_become_133 fl_X0_43 rfl (hq4.T 0 (by decide)) hq4.n7 kk) ?_
    refine r_go (fun kk => e_putI (ci := 0) (k := 7) dX0_become_136 fl_X0_43 rfl (fun q h => by cases h; rfl) ⟨rfl, rfl⟩ (sm4.1 0 (by omega)) kk) ?_
    refine r_gen (fun mm => BK (m, Y) mm Y Y1 ρ kf vf n ∧ (∀ l, l < 100 → aI mm (Y.1 5) l = kf (240 + l)) ∧ (∀ l, l < 4 → aI mm (Y.1 6) l = kf (7 + l)) ∧ (∀ l, l < 200 → nI l < kf 5 → aI mm (Y.1 7) l = kf (16 + l)) ∧ (∀ l, l < 12 → aI mm (Y.1 8) l = kf (220 + l)) ∧ gI mm 7 (Y.1 0) = nI n) ⟨hk4.sI hn2 (by omega) (hX1 0 (by omega)), f0, f1, f2, f3, u2_eq (gI z4) 7 (Y.1 0) _⟩ (fun z5 hy => ?_)
    obtain ⟨hk5, f0, f1, f2, f3, f4⟩ := hy
    have sm5 := hk5.2.1.sm hk5.1
    have hq5 := hS.src hO hd hk5.2.1.2.2
    refine r_go (fun kk => e_aload_n 0 dX0_become_139 rfl kk) ?_
    refine r_go (fun kk => e_aload_n 1 dX0_become_140 rfl kk) ?_
    refine r_go (fun kk => e_getIv (kf 0) dX0_become_141 fl_X0_47 rfl (hq5.T 0 (by decide)) hq5.2.1.1.1 kk) ?_
    refine r_go (fun kk => e_putI (ci := 0) (k := 8) dX0_become_144 fl_X0_47 rfl (fun q h => by cases h; rfl) ⟨rfl, rfl⟩ (sm5.1 0 (by omega)) kk) ?_
    refine r_gen (fun mm => BK (m, Y) mm Y Y1 ρ kf vf n ∧ (∀ l, l < 100 → aI mm (Y.1 5) l = kf (240 + l)) ∧ (∀ l, l < 4 → aI mm (Y.1 6) l = kf (7 + l)) ∧ (∀ l, l < 200 → nI l < kf 5 → aI mm (Y.1 7) l = kf (16 + l)) ∧ (∀ l, l < 12 → aI mm (Y.1 8) l = kf (220 + l)) ∧ gI mm 7 (Y.1 0) = nI n ∧ gI mm 8 (Y.1 0) = kf 0) ⟨hk5.sI hn2 (by omega) (hX1 0 (by omega)), f0, f1, f2, f3, (gI_nf (by omega)).trans f4, u2_eq (gI z5) 8 (Y.1 0) _⟩ (fun z6 hy => ?_)
    obtain ⟨hk6, f0, f1, f2, f3, f4, f5⟩ := hy
    have sm6 := hk6.2.1.sm hk6.1
    have hq6 := hS.src hO hd hk6.2.1.2.2
    refine r_go (fun kk => e_aload_n 0 dX0_become_147 rfl kk) ?_
    refine r_go (fun kk => e_aload_n 1 dX0_become_148 rfl kk) ?_
    refine r_go (fun kk => e_getIv (kf 2) dX0_become_149 fl_X0_50 rfl (hq6.T 0 (by decide)) hq6.2.1.1.2.2.1 kk) ?_
    refine r_go (fun kk => e_putI (ci := 0) (k := 9) dX0_become_152 fl_X0_50 rfl (fun q h => by cases h; rfl) ⟨rfl, rfl⟩ (sm6.1 0 (by omega)) kk) ?_
    refine r_gen (fun mm => BK (m, Y) mm Y Y1 ρ kf vf n ∧ (∀ l, l < 100 → aI mm (Y.1 5) l = kf (240 + l)) ∧ (∀ l, l < 4 → aI mm (Y.1 6) l = kf (7 + l)) ∧ (∀ l, l < 200 → nI l < kf 5 → aI mm (Y.1 7) l = kf (16 + l)) ∧ (∀ l, l < 12 → aI mm (Y.1 8) l = kf (220 + l)) ∧ gI mm 7 (Y.1 0) = nI n ∧ gI mm 8 (Y.1 0) = kf 0 ∧ gI mm 9 (Y.1 0) = kf 2) ⟨hk6.sI hn2 (by omega) (hX1 0 (by omega)), f0, f1, f2, f3, (gI_nf (by omega)).trans f4, (gI_nf (by omega)).trans f5, u2_eq (gI z6) 9 (Y.1 0) _⟩ (fun z7 hy => ?_)
    obtain ⟨hk7, f0, f1, f2, f3, f4, f5, f6⟩ := hy
    have sm7 := hk7.2.1.sm hk7.1
    have hq7 := hS.src hO hd hk7.2.1.2.2
    refine r_go (fun kk => e_aload_n 0 dX0_become_155 rfl kk) ?_
    refine r_go (fun kk => e_aload_n 1 dX0_become_156 rfl kk) ?_
    refine r_go (fun kk => e_getIv (kf 5) dX0_become_157 fl_X0_53 rfl (hq7.T 0 (by decide)) hq7.2.1.1.2.2.2.2.2 kk) ?_
    refine r_go (fun kk => e_putI (ci := 0) (k := 10) dX0_become_160 fl_X0_53 rfl (fun q h => by cases h; rfl) ⟨rfl, rfl⟩ (sm7.1 0 (by omega)) kk) ?_
    refine r_gen (fun mm => BK (m, Y) mm Y Y1 ρ kf vf n ∧ (∀ l, l < 100 → aI mm (Y.1 5) l = kf (240 + l)) ∧ (∀ l, l < 4 → aI mm (Y.1 6) l = kf (7 + l)) ∧ (∀ l, l < 200 → nI l < kf 5 → aI mm (Y.1 7) l = kf (16 + l)) ∧ (∀ l, l < 12 → aI mm (Y.1 8) l = kf (220 + l)) ∧ gI mm 7 (Y.1 0) = nI n ∧ gI mm 8 (Y.1 0) = kf 0 ∧ gI mm 9 (Y.1 0) = kf 2 ∧ gI mm 10 (Y.1 0) = kf 5) ⟨hk7.sI hn2 (by omega) (hX1 0 (by omega)), f0, f1, f2, f3, (gI_nf (by omega)).trans f4, (gI_nf (by omega)).trans f5, (gI_nf (by omega)).trans f6, u2_eq (gI z7) 10 (Y.1 0) _⟩ (fun z8 hy => ?_)
    obtain ⟨hk8, f0, f1, f2, f3, f4, f5, f6, f7⟩ := hy
    have sm8 := hk8.2.1.sm hk8.1
    have hq8 := hS.src hO hd hk8.2.1.2.2
    refine r_go (fun kk => e_aload_n 0 dX0_become_163 rfl kk) ?_
    refine r_go (fun kk => e_aload_n 1 dX0_become_164 rfl kk) ?_
    refine r_go (fun kk => e_getIv (kf 4) dX0_become_165 fl_X0_56 rfl (hq8.T 0 (by decide)) hq8.2.1.1.2.2.2.2.1 kk) ?_
    refine r_go (fun kk => e_putI (ci := 0) (k := 11) dX0_become_168 fl_X0_56 rfl (fun q h => by cases h; rfl) ⟨rfl, rfl⟩ (sm8.1 0 (by omega)) kk) ?_
    refine r_gen (fun mm => BK (m, Y) mm Y Y1 ρ kf vf n ∧ (∀ l, l < 100 → aI mm (Y.1 5) l = kf (240 + l)) ∧ (∀ l, l < 4 → aI mm (Y.1 6) l = kf (7 + l)) ∧ (∀ l, l < 200 → nI l < kf 5 → aI mm (Y.1 7) l = kf (16 + l)) ∧ (∀ l, l < 12 → aI mm (Y.1 8) l = kf (220 + l)) ∧ gI mm 7 (Y.1 0) = nI n ∧ gI mm 8 (Y.1 0) = kf 0 ∧ gI mm 9 (Y.1 0) = kf 2 ∧ gI mm 10 (Y.1 0) = kf 5 ∧ gI mm 11 (Y.1 0) = kf 4) ⟨hk8.sI hn2 (by omega) (hX1 0 (by omega)), f0, f1, f2, f3, (gI_nf (by omega)).trans f4, (gI_nf (by omega)).trans f5, (gI_nf (by omega)).trans f6, (gI_nf (by omega)).trans f7, u2_eq (gI z8) 11 (Y.1 0) _⟩ (fun z9 hy => ?_)
    obtain ⟨hk9, f0, f1, f2, f3, f4, f5, f6, f7, f8⟩ := hy
    have sm9 := hk9.2.1.sm hk9.1
    have hq9 := hS.src hO hd hk9.2.1.2.2
    rw [← hX1 0 (by omega)] at f4 f5 f6 f7 f8
    rw [← hX1 5 (by omega)] at f0
    rw [← hX1 6 (by omega)] at f1
    rw [← hX1 7 (by omega)] at f2
    rw [← hX1 8 (by omega)] at f3
    exact r_ret ⟨rfl, Y1, hX1, hk9.2.1.1, ⟨⟨f5, f4.trans hW.1.1.symm, f6, hk9.2.2.2.2.1, f8, f7⟩, ⟨f1, f2, f3, f0⟩, hk9.2.2.2.1, hk9.2.2.1, hk9.2.2.2.2.2, hW.1⟩, hk9.2.1.2.2⟩ (e_retV dX0_become_171 rfl rfl)
  have E2 : ∀ (k i : Nat) (M : Mem) (Yc : YY), i + k = 32 → Sm Y Yc → KU (m, Y) M Yc → (∀ t, t < n → TOK M Yc kf vf t) → (∀ p, p < i → POK M Yc kf p) → EvR G 3 uX0_become (zz m) (nn m) (fun r mm => r = none ∧ ∃ Y2, Sm Y Y2 ∧ KQ (m, Y) mm Y2 ρ kf vf n) 33 [(2, .int (nI i)), (0, .ref (Y.1 0)), (1, .ref (Y'.1 0))] [] M := by
    intro k
    induction k with
    | zero =>
      intro i M Yc hi hX hU hT hP
      refine r_go (fun kk => e_iload_n 0 dX0_become_33 rfl kk) ?_
      refine r_go (fun kk => e_bipush (v := nI 32) dX0_become_34 (by decide) kk) ?_
      refine r_go (fun kk => e_icmp_geN 60 dX0_become_36 (by decide) (by omega) (by omega) (fun _ => kk) (fun h => absurd h (by omega))) ?_
      refine r_go (fun kk => e_sub [1, 2] rfl kk) ?_
      exact E3 M Yc hX hU hT (fun p hp => hP p (by omega))
    | succ k ih =>
      intro i M Yc hi hX hU hT hP
      have sm0 := hU.sm hX
      have hq0 := hS.src hO hd hU.2.2
      have hb0 : Yc.2.1 = Y.2.1 := hU.2.2.2.1
      refine r_go (fun kk => e_iload_n 0 dX0_become_33 rfl kk) ?_
      refine r_go (fun kk => e_bipush (v := nI 32) dX0_become_34 (by decide) kk) ?_
      refine r_go (fun kk => e_icmp_geN 60 dX0_become_36 (by decide) (by omega) (by omega) (fun h => absurd h (by omega)) (fun _ => kk)) ?_
      refine r_go (fun kk => e_aload_n 1 dX0_become_39 rfl kk) ?_
      refine r_go (fun kk => e_getP (some (Y.1 2)) dX0_become_40 fl_X0_19 rfl (sm0.1 0 (by omega)) (sm0.2.1.2.1) kk) ?_
      refine r_go (fun kk => e_iload_n 0 dX0_become_43 rfl kk) ?_
      refine r_go (fun kk => e_aaldN (some (Y.1 (209 + i))) dX0_become_44 (sm0.1 2 (by omega)) (Or.inl rfl) (by rw [sm0.2.2.2.2.2.1]; omega) (by rw [sm0.2.2.2.2.2.1]; decide) (sm0.2.2.1 i (by omega)) kk) ?_
      refine r_go (fun kk => e_aload_n 2 dX0_become_45 rfl kk) ?_
      refine r_go (fun kk => e_getP (some (Y'.1 2)) dX0_become_46 fl_X0_19 rfl (hq0.T 0 (by decide)) (hq0.1.2.2.1.2.1) kk) ?_
      refine r_go (fun kk => e_iload_n 0 dX0_become_49 rfl kk) ?_
      refine r_go (fun kk => e_aaldN (some (Y'.1 (209 + i))) dX0_become_50 (hq0.T 2 (by decide)) (Or.inl rfl) (by rw [show gN M (Y'.1 2) = 32 from hq0.1.2.1.2.1]; omega) (by rw [show gN M (Y'.1 2) = 32 from hq0.1.2.1.2.1]; decide) (hq0.pp (by omega)) kk) ?_
      obtain ⟨_, M2, ⟨rfl, Y2, g1, g2, g3, g4⟩, E51⟩ := k_pbecome (G := G) (Y' := rY Y' Yc.2.2.2) hU.rf hq0.ks rfl (fun c h => by rw [hb0]; exact hd c h) (p := i) (by omega) hW.2.2.2.2.2.1
      rw [hX (209 + i) (by omega)] at E51
      refine r_go (fun kk => e_callV (ci := 2) (st := []) (st1 := []) (As := [.ref (Y'.1 (209 + i))]) (E51) dX0_become_51 (by decide) cm_X2_become lk_X0_77 im_X2_become rfl sel_X2_become (sm0.1 (209 + i) (by omega) |>.trans (by rw [tyR, if_neg (by omega), if_neg (by omega), if_neg (by omega), if_neg (by omega), if_neg (by omega), if_neg (by omega), if_pos (by omega)])) rfl rfl (Nat.le_of_ble_eq_true rfl) rfl kk) ?_
      have ih2 := ih (i + 1) M2 Y2 (by omega) (hX.tr (g1.sm (by omega))) (hU.tr g2) (fun t ht => (hT t ht).un (by omega) hU.1 g3 (fun q => by unfold Sp at q; omega) (fun q => by unfold Sp at q; omega) (g1 _ (by omega)) (g1 _ (by omega))) (fun p hp => (Classical.em (p = i)).elim (fun e => by rw [e]; exact g4) (fun e => (hP p (by omega)).un (by omega) hU.1 g3 (fun q => by unfold Sp at q; omega) (fun q => by unfold Sp at q; omega) (g1 _ (by omega)) (g1 _ (by omega))))
      refine r_go (fun kk => e_iinc1N (lv' := [(2, .int (nI (i + 1))), (0, .ref (Y.1 0)), (1, .ref (Y'.1 0))]) 0 dX0_become_54 rfl (by decide) rfl kk) ?_
      refine r_go (fun kk => e_goto 33 dX0_become_57 (by decide) kk) ?_
      refine r_go (fun kk => e_sub [0, 1, 2] rfl kk) ?_
      exact ih2
  have E1 : ∀ (k i : Nat) (M : Mem) (Yc : YY), i + k = n → Sm Y Yc → KU (m, Y) M Yc → (∀ t, t < i → TOK M Yc kf vf t) → EvR G 3 uX0_become (zz m) (nn m) (fun r mm => r = none ∧ ∃ Y2, Sm Y Y2 ∧ KQ (m, Y) mm Y2 ρ kf vf n) 2 [(2, .int (nI i)), (0, .ref (Y.1 0)), (1, .ref (Y'.1 0))] [] M := by
    intro k
    induction k with
    | zero =>
      intro i M Yc hi hX hU hT
      have hq0 := hS.src hO hd hU.2.2
      refine r_go (fun kk => e_iload_n 0 dX0_become_2 rfl kk) ?_
      refine r_go (fun kk => e_aload_n 2 dX0_become_3 rfl kk) ?_
      refine r_go (fun kk => e_getIv (nI n) dX0_become_4 fl_X0_43 rfl (hq0.T 0 (by decide)) hq0.n7 kk) ?_
      refine r_go (fun kk => e_icmp_geN 31 dX0_become_7 (by decide) (by omega) (by omega) (fun _ => kk) (fun h => absurd h (by omega))) ?_
      refine r_go (fun kk => e_ic (nI 0) dX0_become_31 (by decide) kk) ?_
      refine r_go (fun kk => e_istore_n (lv' := [(2, .int (nI 0)), (0, .ref (Y.1 0)), (1, .ref (Y'.1 0))]) dX0_become_32 (by decide) rfl kk) ?_
      refine r_go (fun kk => e_sub [0, 1, 2] rfl kk) ?_
      exact E2 32 0 M Yc (by omega) hX hU (fun t ht => hT t (by omega)) (fun p hp => absurd hp (Nat.not_lt_zero _))
    | succ k ih =>
      intro i M Yc hi hX hU hT
      have sm0 := hU.sm hX
      have hq0 := hS.src hO hd hU.2.2
      have hb0 : Yc.2.1 = Y.2.1 := hU.2.2.2.1
      refine r_go (fun kk => e_iload_n 0 dX0_become_2 rfl kk) ?_
      refine r_go (fun kk => e_aload_n 2 dX0_become_3 rfl kk) ?_
      refine r_go (fun kk => e_getIv (nI n) dX0_become_4 fl_X0_43 rfl (hq0.T 0 (by decide)) hq0.n7 kk) ?_
      refine r_go (fun kk => e_icmp_geN 31 dX0_become_7 (by decide) (by omega) (by omega) (fun h => absurd h (by omega)) (fun _ => kk)) ?_
      refine r_go (fun kk => e_aload_n 1 dX0_become_10 rfl kk) ?_
      refine r_go (fun kk => e_getP (some (Y.1 1)) dX0_become_11 fl_X0_11 rfl (sm0.1 0 (by omega)) (sm0.2.1.1) kk) ?_
      refine r_go (fun kk => e_iload_n 0 dX0_become_14 rfl kk) ?_
      refine r_go (fun kk => e_aaldN (some (Y.1 (9 + i))) dX0_become_15 (sm0.1 1 (by omega)) (Or.inr rfl) (by rw [sm0.2.2.2.2.1]; omega) (by rw [sm0.2.2.2.2.1]; decide) (sm0.2.2.2.1 i (by omega)) kk) ?_
      refine r_go (fun kk => e_aload_n 2 dX0_become_16 rfl kk) ?_
      refine r_go (fun kk => e_getP (some (Y'.1 1)) dX0_become_17 fl_X0_11 rfl (hq0.T 0 (by decide)) (hq0.1.2.2.1.1) kk) ?_
      refine r_go (fun kk => e_iload_n 0 dX0_become_20 rfl kk) ?_
      refine r_go (fun kk => e_aaldN (some (Y'.1 (9 + i))) dX0_become_21 (hq0.T 1 (by decide)) (Or.inr rfl) (by rw [show gN M (Y'.1 1) = 200 from hq0.1.2.1.1]; omega) (by rw [show gN M (Y'.1 1) = 200 from hq0.1.2.1.1]; decide) (hq0.pt (by omega)) kk) ?_
      obtain ⟨_, M2, ⟨rfl, Y2, g1, g2, g3, g4⟩, E22⟩ := k_tbecome (G := G) (Y' := rY Y' Yc.2.2.2) hU.rf hq0.ks rfl (fun c h => by rw [hb0]; exact hd c h) (i := i) (by omega) (hW.hm i (by omega)) (hH i (by omega))
      rw [hX (9 + i) (by omega)] at E22
      refine r_go (fun kk => e_callV (ci := 4) (st := []) (st1 := []) (As := [.ref (Y'.1 (9 + i))]) (E22) dX0_become_22 (by decide) cm_X4_become lk_X0_73 im_X4_become rfl sel_X4_become (sm0.1 (9 + i) (by omega) |>.trans (by rw [tyR, if_neg (by omega), if_neg (by omega), if_neg (by omega), if_neg (by omega), if_neg (by omega), if_pos (by omega)])) rfl rfl (Nat.le_of_ble_eq_true rfl) rfl kk) ?_
      have ih2 := ih (i + 1) M2 Y2 (by omega) (hX.tr (g1.sm (by omega))) (hU.tr g2) (fun t ht => (Classical.em (t = i)).elim (fun e => by rw [e]; exact g4) (fun e => (hT t (by omega)).un (by omega) hU.1 g3 (fun q => by unfold Sq at q; omega) (fun q => by unfold Sq at q; omega) (g1 _ (by omega)) (g1 _ (by omega))))
      refine r_go (fun kk => e_iinc1N (lv' := [(2, .int (nI (i + 1))), (0, .ref (Y.1 0)), (1, .ref (Y'.1 0))]) 0 dX0_become_25 rfl (by decide) rfl kk) ?_
      refine r_go (fun kk => e_goto 2 dX0_become_28 (by decide) kk) ?_
      refine r_go (fun kk => e_sub [0, 1, 2] rfl kk) ?_
      exact ih2
  refine r_go (fun kk => e_lvs (lv' := [(0, .ref (Y.1 0)), (1, .ref (Y'.1 0))]) rfl kk) ?_
  refine r_go (fun kk => e_ic (nI 0) dX0_become_0 (by decide) kk) ?_
  refine r_go (fun kk => e_istore_n (lv' := [(2, .int (nI 0)), (0, .ref (Y.1 0)), (1, .ref (Y'.1 0))]) dX0_become_1 (by decide) rfl kk) ?_
  refine r_go (fun kk => e_sub [0, 1, 2] rfl kk) ?_
  exact E1 n 0 m Y (by omega) (Sm.rf Y) hu (fun t ht => absurd ht (Nat.not_lt_zero _))

end Class27
