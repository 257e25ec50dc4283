/-! the class: image, load, a new object -/
theorem nb_f {m X : Mem} (hX : X = niM (nw m 2 2) (zz m)) : zz X = zz m + 2 ∧ nn X = nn m + 258 ∧ gT X (zz m) = 2 ∧ gT X (zz m + 1) = 13 ∧ gN X (zz m + 1) = 256 ∧ gI X 20 (zz m) = nI 0 ∧ gP X 21 (zz m) = some (zz m + 1) ∧ ∀ q, q < zz m → gT X q = gT m q ∧ gN X q = gN m q ∧ Eqa m X q := by
  obtain ⟨w1, w2, w3, w4, w5⟩ := nw_0 m 2 2
  have hlt : zz m < zz (nw m 2 2) := by rw [w4]; omega
  have r := ni_f (nw m 2 2) (a := zz m) hlt
  have v := fun q (hq : q < zz m) => nw_eqa m 2 2 hq
  rw [← hX, w4, w5] at r
  clear hX
  generalize nw m 2 2 = N at *
  obtain ⟨r1, r2, r3, r4, r5, r6, r7⟩ := r
  obtain ⟨x1, x2, x3⟩ := r7 (zz m) (by omega)
  refine ⟨r1, by omega, x1.trans w1, r3, r4, r5, r6, fun q hq => ?_⟩
  obtain ⟨y1, y2, y3⟩ := r7 q (by omega)
  obtain ⟨v1, v2, v3⟩ := v q hq
  exact ⟨y1.trans v2, y2.trans v3, v1.tr (y3 (by omega))⟩
def nO (o : Nat → Nat) (z c q : Nat) : Nat := if q = z then c else if q = z + 1 then c + 1 else o q
theorem nb_ns {m X : Mem} (o : Nat → Nat) (c : Nat) (nf : Nat → Int64) (hX : X = niM (nw m 2 2) (zz m)) : FS (S2 c) m o X (nO o (zz m) c) ∧ NS X (nO o (zz m) c) c (zz m, zz m + 1, 256) 0 nf ∧ zz X = zz m + 2 ∧ nn X = nn m + 258 ∧ gT X (zz m) = 2 := by
  obtain ⟨r1, r2, r3, r4, r5, r6, r7, r8⟩ := nb_f hX
  refine ⟨⟨by omega, fun q hq => ?_, fun q h1 h2 => ?_⟩, ⟨⟨r3, if_pos rfl, by show zz m < zz X; omega⟩, ⟨r4, ?_, by show zz m + 1 < zz X; omega⟩, r7, r6, by omega, ?_, by omega, fun i hi => absurd hi (by omega)⟩, r1, r2, r3⟩
  · obtain ⟨e1, e2, e3⟩ := r8 q hq
    refine ⟨?_, e1, e2, fun _ => e3⟩
    unfold nO
    rw [if_neg (by omega), if_neg (by omega)]
  · unfold nO
    by_cases e : q = zz m
    · rw [if_pos e]
      exact Or.inl rfl
    · rw [if_neg e, if_pos (by omega)]
      exact Or.inr rfl
  · show nO o (zz m) c (zz m + 1) = c + 1
    unfold nO
    rw [if_neg (by omega), if_pos rfl]
  · show LT (gN X (zz m + 1)) 256
    rw [r5]
    exact Or.inl ⟨rfl, by omega⟩
/-- what an image keeps -/
def KPs (m : Mem) (o : Nat → Nat) (F : Nat) (YK : YY) (AK : Nat × Nat × Nat) (kk : KF) (kv : VF) (nk sk : Nat) (nfk : Nat → Int64) : Prop := gP m 103 F = some (YK.1 0) ∧ gP m 104 F = some AK.1 ∧ (YK.2.1 = 3000 ∧ YK.2.2.2 = o) ∧ KS m YK 62000 kk kv nk ∧ NS m o 12 AK sk nfk ∧ kk 6 = nI sk
def KP (m : Mem) (o : Nat → Nat) (F : Nat) (kk : KF) (kv : VF) (a : Nat) : Prop := (gP m 103 F = none ∧ gP m 104 F = none ∧ (∀ q, q < zz m → ¬ Ow 3000 (o q)) ∧ a = 0) ∨ ∃ YK AK nk sk nfk, KPs m o F YK AK kk kv nk sk nfk ∧ SN kk kv nk sk ∧ HI nfk sk kk kv nk ∧ a = 4428 + pot YK.2.2.1 + AK.2.2
theorem KPs.un {S : Nat → Prop} {m m1 : Mem} {o o1 : Nat → Nat} {F : Nat} {YK : YY} {AK : Nat × Nat × Nat} {kk : KF} {kv : VF} {nk sk : Nat} {nfk : Nat → Int64} (h : KPs m o F YK AK kk kv nk sk nfk) (fs : FS S m o m1 o1) (hS : ∀ c, (Ow 3000 c ∨ c = 12 ∨ c = 13) → ¬ S c) (h3 : gP m1 103 F = gP m 103 F) (h4 : gP m1 104 F = gP m 104 F) : KPs m1 o1 F (rY YK o1) AK kk kv nk sk nfk := by
  obtain ⟨g1, g2, ⟨g3, g3'⟩, g4, g5, g6⟩ := h
  exact ⟨h3.trans g1, h4.trans g2, ⟨g3, rfl⟩, g4.un (by rw [g3']; exact fs) (fun c hc => hS c (Or.inl (by rw [g3] at hc; exact hc))), g5.un fs (hS 12 (Or.inr (Or.inl rfl))) (hS 13 (Or.inr (Or.inr rfl))), g6⟩
theorem KP.un {S : Nat → Prop} {m m1 : Mem} {o o1 : Nat → Nat} {F a : Nat} {kk : KF} {kv : VF} (h : KP m o F kk kv a) (fs : FS S m o m1 o1) (hS : ∀ c, (Ow 3000 c ∨ c = 12 ∨ c = 13) → ¬ S c) (h3 : gP m1 103 F = gP m 103 F) (h4 : gP m1 104 F = gP m 104 F) : KP m1 o1 F kk kv a := by
  rcases h with ⟨g1, g2, g3, g4⟩ | ⟨YK, AK, nk, sk, nfk, g1, g2, g3, g4⟩
  · refine Or.inl ⟨h3.trans g1, h4.trans g2, fun q hq => ?_, g4⟩
    rcases Nat.lt_or_ge q (zz m) with z | z
    · rw [(fs.2.1 q z).1]
      exact g3 q z
    · exact fun c => hS _ (Or.inl c) (fs.2.2 q z hq)
  · exact Or.inr ⟨rY YK o1, AK, nk, sk, nfk, g1.un fs hS h3 h4, g2, g3, g4⟩
def SK (q : Nat) : Prop := q = 8 ∨ q = 12 ∨ q = 13 ∨ Ow 3000 q
section Class36
variable {G : GG} {m : Mem} {o : Nat → Nat} {F : Nat} {YL : YY} {AN : Nat × Nat × Nat} {kf : KF} {vf : VF} {n s : Nat} {nf : Nat → Int64}

set_option maxRecDepth 100000 in
set_option maxHeartbeats 4000000 in
theorem k5_image (hC : CW m o F YL AN kf vf n s nf) (hS : SN kf vf n s) (hH : HI nf s kf vf n) {kk : KF} {kv : VF} {a : Nat} (hKP : KP m o F kk kv a) : EvC G 4 uX5_image [.ref F] m (fun r mm => r = some (.long (dgF kf vf)) ∧ ∃ o' a', CW mm o' F (rY YL o') AN kf vf n s nf ∧ FS SK m o mm o' ∧ (∀ f, f ≠ 103 → f ≠ 104 → gP mm f F = gP m f F) ∧ (gI mm 105 F = gI m 105 F ∧ gI mm 106 F = gI m 106 F) ∧ (∃ q, gP mm 103 F = some q) ∧ KP mm o' F kf vf a' ∧ nn mm + a = nn m + a' ∧ 16 * zz mm + a ≤ 16 * zz m + a') := by
  refine EvC.of (by decide +kernel) (Nat.le_of_ble_eq_true rfl) ?_
  have h8 := hC.1.2.1
  have hz8 := hC.1.2.2
  have hH2 : ∀ t, t < n → gH kf t := fun t ht => by
    obtain ⟨hW, z, h0, hz, hG⟩ := id hS
    exact (hG.at hW ht).2.2.2.2.2.2
  have C : ∀ (m1 : Mem) (YK : YY) (AK : Nat × Nat × Nat) (sk : Nat) (nfk : Nat → Int64), YK.2.1 = 3000 → CW m1 YK.2.2.2 F (rY YL YK.2.2.2) AN kf vf n s nf → FS SK m o m1 YK.2.2.2 → (∀ f, f ≠ 103 → f ≠ 104 → gP m1 f F = gP m f F) → (gI m1 105 F = gI m 105 F ∧ gI m1 106 F = gI m 106 F) → gP m1 103 F = some (YK.1 0) → gP m1 104 F = some AK.1 → KT m1 YK → BYT m1 YK → NS m1 YK.2.2.2 12 AK sk nfk → nn m1 + a = nn m + (4428 + pot YK.2.2.1 + AK.2.2) → 16 * zz m1 + a ≤ 16 * zz m + (4428 + pot YK.2.2.1 + AK.2.2) → EvR G 4 uX5_image (zz m) (nn m) (fun r mm => r = some (.long (dgF kf vf)) ∧ ∃ o' a', CW mm o' F (rY YL o') AN kf vf n s nf ∧ FS SK m o mm o' ∧ (∀ f, f ≠ 103 → f ≠ 104 → gP mm f F = gP m f F) ∧ (gI mm 105 F = gI m 105 F ∧ gI mm 106 F = gI m 106 F) ∧ (∃ q, gP mm 103 F = some q) ∧ KP mm o' F kf vf a' ∧ nn mm + a = nn m + a' ∧ 16 * zz mm + a ≤ 16 * zz m + a') 36 [(0, .ref F)] [] m1 := by
    intro m1 YK AK sk nfk hb hC1 hF1 hP1 hI1 hK1 hA1 hT1 hB1 hN1 ha1 hz1
    obtain ⟨_, m2, ⟨rfl, Y2, hSm, hq2⟩, E44⟩ := k_become (G := G) (Y := YK) (Y' := rY YL YK.2.2.2) ⟨hT1, trivial, FK.rf m1 YK hB1⟩ hC1.2.2.2.1 rfl (fun c hc => by rw [hb]; rw [show (rY YL YK.2.2.2).2.1 = 1000 from hC1.2.2.1.1] at hc; unfold Ow at *; omega) hS.1 hH2
    have fs2 : FS (Ow 3000) m1 YK.2.2.2 m2 Y2.2.2.2 := by
      have := hq2.2.2.fs
      rw [hb] at this
      exact this
    have e2 := (fs2.2.1 F hC1.1.2.2).2.2.2 (by rw [hC1.1.2.1]; unfold Ow; omega)
    have hC2 := hC1.un fs2 (fun c h1 h2 => by unfold SC at h1; unfold Ow at *; omega) (fun f _ => e2.2.2.1 f)
    have hN2 := hN1.un fs2 (by unfold Ow; omega) (by unfold Ow; omega)
    have p1 : nn m2 + pot YK.2.2.1 = nn m1 + pot Y2.2.2.1 := hq2.2.2.2.2.2.1
    have p2 : 16 * zz m2 + pot YK.2.2.1 ≤ 16 * zz m1 + pot Y2.2.2.1 := hq2.2.2.2.2.2.2.1
    obtain ⟨_, m3, ⟨rfl, A2, o3, g1, g2, g3, g4, g5⟩, E55⟩ := k_nbecome (G := G) hN2 hC2.2.2.2.2.1 (by unfold S2; omega) (by unfold S2; omega)
    have e3 := (g3.2.1 F hC2.1.2.2).2.2.2 (by rw [hC2.1.2.1]; unfold S2; omega)
    have hC3 := hC2.un g3 (fun c h1 h2 => by unfold SC at h1; unfold Ow at *; unfold S2; omega) (fun f _ => e3.2.2.1 f)
    have hK3 := hq2.ks.un g3 (fun c hc => by rw [show Y2.2.1 = YK.2.1 from hq2.2.2.2.1, hb] at hc; unfold Ow at hc; unfold S2; omega)
    have hq3 := hK3.q
    have g103 : gP m2 103 F = some (YK.1 0) := by rw [e2.2.2.1]; exact hK1
    have g103' : gP m3 103 F = some (YK.1 0) := by rw [e3.2.2.1]; exact g103
    have g104 : gP m2 104 F = some AK.1 := by rw [e2.2.2.1]; exact hA1
    have y0 : Y2.1 0 = YK.1 0 := hSm 0 (by omega)
    refine r_go (fun kk => e_aload_n 0 dX5_image_36 rfl kk) ?_
    refine r_go (fun kk => e_getP (some (YK.1 0)) dX5_image_37 fl_X5_26 rfl hC1.1.1 (hK1) kk) ?_
    refine r_go (fun kk => e_aload_n 0 dX5_image_40 rfl kk) ?_
    refine r_go (fun kk => e_getP (some (YL.1 0)) dX5_image_41 fl_X5_12 rfl hC1.1.1 hC1.2.1.1 kk) ?_
    refine r_go (fun kk => e_callV (ci := 0) (st := []) (st1 := []) (As := [.ref (YL.1 0)]) (E44) dX5_image_44 (by decide) cm_X0_become lk_X5_201 im_X0_become rfl sel_X0_become (show gT m1 (YK.1 0) = 1 from (hT1.1 0 (by omega)).1) rfl rfl (Nat.le_of_ble_eq_true rfl) rfl kk) ?_
    refine r_go (fun kk => e_aload_n 0 dX5_image_47 rfl kk) ?_
    refine r_go (fun kk => e_getP (some AK.1) dX5_image_48 fl_X5_29 rfl hC2.1.1 g104 kk) ?_
    refine r_go (fun kk => e_aload_n 0 dX5_image_51 rfl kk) ?_
    refine r_go (fun kk => e_getP (some AN.1) dX5_image_52 fl_X5_19 rfl hC2.1.1 hC2.2.1.2 kk) ?_
    refine r_go (fun kk => e_callV (ci := 1) (st := []) (st1 := []) (As := [.ref AN.1]) (E55) dX5_image_55 (by decide) cm_X1_become lk_X5_205 im_X1_become rfl sel_X1_become (hN2.1.1) rfl rfl (Nat.le_of_ble_eq_true rfl) rfl kk) ?_
    refine r_go (fun kk => e_aload_n 0 dX5_image_58 rfl kk) ?_
    refine r_go (fun kk => e_getP (some (YK.1 0)) dX5_image_59 fl_X5_26 rfl hC3.1.1 (g103') kk) ?_
    have Es := k_summed (G := G) hq3 hS.1
    rw [show (rY Y2 o3).1 0 = YK.1 0 from y0] at Es
    refine r_go (fun kk => e_callV (ci := 0) (st := []) (st1 := [.long (dgF kf vf)]) (As := []) (Es) dX5_image_62 (by decide) cm_X0_summed lk_X5_208 im_X0_summed rfl sel_X0_summed (by rw [← y0]; exact hq3.T 0 (by decide)) rfl rfl (Nat.le_of_ble_eq_true rfl) rfl kk) ?_
    refine r_ret ⟨rfl, o3, 4428 + pot Y2.2.2.1 + A2.2.2, hC3, ?_, fun f h1 h2 => (e3.2.2.1 f).trans ((e2.2.2.1 f).trans (hP1 f h1 h2)), ⟨(e3.1 105).trans ((e2.1 105).trans hI1.1), (e3.1 106).trans ((e2.1 106).trans hI1.2)⟩, ⟨_, g103'⟩, Or.inr ⟨rY Y2 o3, A2, n, s, nf, ⟨?_, ?_, ⟨?_, rfl⟩, hK3, g2, hC.2.2.2.2.2⟩, hS, hH, rfl⟩, ?_, ?_⟩ (e_retL dX5_image_65 rfl rfl)
    · exact hF1.tr ((fs2.up (fun c hc => Or.inr (Or.inr (Or.inr hc)))).tr (g3.up (fun c hc => hc.elim (fun z => Or.inr (Or.inl z)) (fun z => Or.inr (Or.inr (Or.inl z))))))
    · exact g103'.trans (congrArg some y0.symm)
    · rw [e3.2.2.1, g1]
      exact g104
    · exact (show Y2.2.1 = YK.2.1 from hq2.2.2.2.1).trans hb
    · omega
    · omega
  refine r_go (fun kk => e_lvs (lv' := [(0, .ref F)]) rfl kk) ?_
  rcases hKP with ⟨r1, r1', r2, r3⟩ | ⟨YK, AK, nk, sk, nfk, ⟨r1, r2, ⟨r3, r3'⟩, r4, r5, r6⟩, -, -, r7⟩
  · skip
    refine r_go (fun kk => e_aload_n 0 dX5_image_0 rfl kk) ?_
    refine r_go (fun kk => e_getP (none) dX5_image_1 fl_X5_26 rfl hC.1.1 r1 kk) ?_
    refine r_go (fun kk => e_ifnonnullN dX5_image_4 kk) ?_
    refine r_go (fun kk => e_aload_n 0 dX5_image_7 rfl kk) ?_
    refine r_go (fun kk => e_new (ci := 0) dX5_image_8 rfl cl_X5_9 ins_X0 ini_X0 kk) ?_
    refine r_go (fun kk => e_dup dX5_image_11 rfl kk) ?_
    obtain ⟨_, m2, ⟨rfl, k1, k2, -, k4, k5, k6⟩, Ek⟩ := k_kinit (G := G) (m := nw m 1 12) (o := fun q => if q = zz m then 3000 else o q) (a := zz m) (b := 3000) (nw_0 m 1 12).1 (Nat.lt_succ_self _) (if_pos rfl) (kn_fr r2)
    refine r_go (fun kk => e_callI (st := [.ref (zz m), .ref F]) (As := []) Ek dX5_image_12 (by decide) cm_X0_init rfl rfl lk_X5_11 im_X0_init rfl rfl (Nat.le_of_ble_eq_true rfl) kk) ?_
    have kf1 := kn_fs k4
    obtain ⟨x1, x2, x3, x4⟩ := kf1.2.1 F hz8
    have xe := x4 (by rw [h8]; unfold Ow; omega)
    refine r_go (fun kk => e_putP (ci := 5) (k := 3) (some (zz m)) dX5_image_15 fl_X5_26 rfl (fun q h => by cases h; rfl) ⟨rfl, rfl⟩ rfl (x2.trans hC.1.1) kk) ?_
    generalize hYg : kiY (fun q => if q = zz m then 3000 else o q) (zz m) (zz (nw m 1 12)) 3000 = YK at k1 k2
    have y0 : YK.1 0 = zz m := by rw [← hYg]; rfl
    have yb : YK.2.1 = 3000 := by rw [← hYg]; rfl
    have yo : YK.2.2.2 = kiO (fun q => if q = zz m then 3000 else o q) (zz (nw m 1 12)) 3000 := by rw [← hYg]; rfl
    have yg : pot YK.2.2.1 = 1344 := by rw [← hYg]; exact kiG_pot
    rw [← yo] at kf1 x1
    clear hYg yo
    have hC2 := hC.un kf1 (fun c h1 h2 => by unfold SC at h1; unfold Ow at *; omega) (fun f _ => xe.2.2.1 f)
    have sf := sP_f m2 103 F (some (zz m))
    have hkt := ktP (f := 103) (a := F) (x := some (zz m)) k1 (by omega)
    have hby := bytP (f := 103) (a := F) (x := some (zz m)) k2
    have nz : zz (nw m 1 12) = zz m + 1 := rfl
    have nn1 : nn (nw m 1 12) = nn m + 12 := rfl
    generalize sP m2 103 F (some (zz m)) = m3 at sf hkt hby ⊢
    obtain ⟨s1, s2, s3, s4, s5, s6, s7, s8, s9, s10, s11, s12⟩ := sf
    have fsP : FS (fun q => q = 8) m2 YK.2.2.2 m3 YK.2.2.2 := FS.wr (a := F) (x1.trans h8) s3 s4 s1 s12
    have hC3 := hC2.un fsP (fun c _ h => h) (fun f hf => s11 f F (Or.inl (by omega)))
    refine r_go (fun kk => e_aload_n 0 dX5_image_18 rfl kk) ?_
    refine r_go (fun kk => e_getP (none) dX5_image_19 fl_X5_29 rfl (by rw [s3]; exact x2.trans hC.1.1) ((s11 104 F (Or.inl (by omega))).trans ((xe.2.2.1 104).trans r1')) kk) ?_
    refine r_go (fun kk => e_ifnonnullN dX5_image_22 kk) ?_
    refine r_go (fun kk => e_aload_n 0 dX5_image_25 rfl kk) ?_
    refine r_go (fun kk => e_new (ci := 1) dX5_image_26 rfl cl_X5_16 ins_X1 ini_X1 kk) ?_
    refine r_go (fun kk => e_dup dX5_image_29 rfl kk) ?_
    refine r_go (fun kk => e_callI (st := [.ref (zz m3), .ref F]) (As := []) (x_notesInit (G := G) (m := nw m3 2 2) (a := zz m3) (nw_0 m3 2 2).1 (Nat.lt_succ_self _)) dX5_image_30 (by decide) cm_X1_init rfl rfl lk_X5_18 im_X1_init rfl rfl (Nat.le_of_ble_eq_true rfl) kk) ?_
    generalize hX : niM (nw m3 2 2) (zz m3) = X
    obtain ⟨b1, b2, b3, b4, b5⟩ := nb_ns YK.2.2.2 12 nf hX.symm
    obtain ⟨w1, w2, w3, w4⟩ := b1.2.1 F hC3.1.2.2
    have we := w4 (by rw [hC3.1.2.1]; unfold S2; omega)
    refine r_go (fun kk => e_putP (ci := 5) (k := 4) (some (zz m3)) dX5_image_33 fl_X5_29 rfl (fun q h => by cases h; rfl) ⟨rfl, rfl⟩ rfl (w2.trans hC3.1.1) kk) ?_
    have hC4 := hC3.un b1 (fun c h1 h2 => by unfold SC at h1; unfold Ow at *; unfold S2; omega) (fun f _ => we.2.2.1 f)
    have hdK : ∀ c, Ow YK.2.1 c → ¬ S2 12 c := fun c hc => by rw [yb] at hc; unfold Ow at hc; unfold S2; omega
    have hk4 := hkt.un b1 hdK
    have hb4 := hby.un b1 hdK
    have sg := sP_f X 104 F (some (zz m3))
    have hk5 := ktP (f := 104) (a := F) (x := some (zz m3)) hk4 (by omega)
    have hb5 := bytP (f := 104) (a := F) (x := some (zz m3)) hb4
    generalize sP X 104 F (some (zz m3)) = m5 at sg hk5 hb5 ⊢
    obtain ⟨q1, q2, q3, q4, q5, q6, q7, q8, q9, q10, q11, q12⟩ := sg
    generalize hoo : nO YK.2.2.2 (zz m3) 12 = o5 at *
    have fsQ : FS (fun q => q = 8) X o5 m5 o5 := FS.wr (a := F) (w1.trans hC3.1.2.1) q3 q4 q1 q12
    have hC5 := hC4.un fsQ (fun c _ h => h) (fun f hf => q11 f F (Or.inl (by omega)))
    have hN5 := b2.un fsQ (by omega) (by omega)
    refine C m5 (rY YK o5) (zz m3, zz m3 + 1, 256) 0 nf yb hC5 ?_ (fun f h1 h2 => (q11 f F (Or.inl h2)).trans ((we.2.2.1 f).trans ((s11 f F (Or.inl h1)).trans (xe.2.2.1 f)))) ⟨?_, ?_⟩ ?_ q10 hk5 hb5 hN5 ?_ ?_
    · exact (kf1.up (fun c hc => Or.inr (Or.inr (Or.inr hc)))).tr ((fsP.up (fun c hc => Or.inl hc)).tr ((b1.up (fun c hc => hc.elim (fun z => Or.inr (Or.inl z)) (fun z => Or.inr (Or.inr (Or.inl z))))).tr (fsQ.up (fun c hc => Or.inl hc))))
    · rw [q5, we.1 105, s5]; exact xe.1 105
    · rw [q5, we.1 106, s5]; exact xe.1 106
    · exact (q11 103 F (Or.inl (by omega))).trans ((we.2.2.1 103).trans (s10.trans (congrArg some y0.symm)))
    · show nn m5 + a = nn m + (4428 + pot YK.2.2.1 + 256)
      omega
    · show 16 * zz m5 + a ≤ 16 * zz m + (4428 + pot YK.2.2.1 + 256)
      omega
  · skip
    refine r_go (fun kk => e_aload_n 0 dX5_image_0 rfl kk) ?_
    refine r_go (fun kk => e_getP (some (YK.1 0)) dX5_image_1 fl_X5_26 rfl hC.1.1 r1 kk) ?_
    refine r_go (fun kk => e_ifnonnull 18 dX5_image_4 (by decide) kk) ?_
    refine r_go (fun kk => e_aload_n 0 dX5_image_18 rfl kk) ?_
    refine r_go (fun kk => e_getP (some AK.1) dX5_image_19 fl_X5_29 rfl hC.1.1 r2 kk) ?_
    refine r_go (fun kk => e_ifnonnull 36 dX5_image_22 (by decide) kk) ?_
    subst r3'
    exact C m YK AK sk nfk r3 (by rw [rY_L hC]; exact hC) (FS.rf _ m _) (fun _ _ _ => rfl) ⟨rfl, rfl⟩ r1 r2 r4.1 r4.2.2 r5 (by omega) (by omega)

end Class36
