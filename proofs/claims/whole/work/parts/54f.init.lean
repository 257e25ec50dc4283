/-! the class: load, a new object -/
section Class37
variable {G : GG} {m : Mem} {o : Nat → Nat} {F : Nat} {YL : YY} {AN : Nat × Nat × Nat} {kf : KF} {vf : VF} {n s : Nat} {nf : Nat → Int64}

set_option maxRecDepth 100000 in
set_option maxHeartbeats 4000000 in
theorem t5_load0 (hC : CW m o F YL AN kf vf n s nf) (hK : gP m 103 F = none) : Ev G 4 uX5_load [.ref F] m (some (.int (nI 0))) (sI m 105 F (nI 2)) := by
  refine Ev.of (by decide +kernel) (Nat.le_of_ble_eq_true rfl) ?_
  refine e_lvs (lv' := [(0, .ref F)]) rfl ?_
  refine e_aload_n 0 dX5_load_0 rfl ?_
  refine e_getP (none) dX5_load_1 fl_X5_26 rfl hC.1.1 (hK) ?_
  refine e_ifnullN 14 dX5_load_4 (by decide) ?_
  refine e_aload_n 0 dX5_load_14 rfl ?_
  refine e_ic (nI 2) dX5_load_15 (by decide) ?_
  refine e_callV (ci := 5) (st := []) (st1 := [.int (-1)]) (As := [.int (nI 2)]) (k_refused (G := G) hC.1.1 (nI 2)) dX5_load_16 (by decide) cm_X5_refused lk_X5_43 im_X5_refused rfl sel_X5_refused hC.1.1 rfl rfl (Nat.le_of_ble_eq_true rfl) rfl ?_
  refine e_pop dX5_load_19 rfl ?_
  refine e_ic (nI 0) dX5_load_20 (by decide) ?_
  exact e_retI dX5_load_21 rfl rfl rfl

set_option maxRecDepth 100000 in
set_option maxHeartbeats 4000000 in
theorem t5_load1 (hC : CW m o F YL AN kf vf n s nf) {YK : YY} {AK : Nat × Nat × Nat} {kk : KF} {kv : VF} {nk sk : Nat} {nfk : Nat → Int64} (hK : KPs m o F YK AK kk kv nk sk nfk) (hSk : SN kk kv nk sk) (hHk : HI nfk sk kk kv nk) : EvC G 4 uX5_load [.ref F] m (fun r mm => r = some (.int (nI 1)) ∧ PM m o F YL AN mm kk kv (nI 0)) := by
  refine EvC.of (by decide +kernel) (Nat.le_of_ble_eq_true rfl) ?_
  have hq0 := hC.2.2.2.1.q
  have hH2 : ∀ t, t < nk → gH kk t := fun t ht => by
    obtain ⟨hW, z, h0, hz, hG⟩ := id hSk
    exact (hG.at hW ht).2.2.2.2.2.2
  have hu : KU (m, YL) m YL := ⟨hC.2.2.2.1.1, trivial, FK.rf m YL hC.2.2.2.1.2.2⟩
  obtain ⟨_, m2, ⟨rfl, Y2, hSm, hq2⟩, E30⟩ := k_become (G := G) (Y := YL) (Y' := YK) hu hK.2.2.2.1 (hK.2.2.1.2.trans hC.2.2.1.2.symm) (fun c hc => by rw [hC.2.2.1.1]; rw [hK.2.2.1.1] at hc; unfold Ow at *; omega) hSk.1 hH2
  have fs2 : FS (Ow 1000) m o m2 Y2.2.2.2 := by
    have := hq2.2.2.fs
    rw [hC.2.2.1.1, hC.2.2.1.2] at this
    exact this
  have e2 := (fs2.2.1 F hC.1.2.2).2.2.2 (by rw [hC.1.2.1]; unfold Ow; omega)
  obtain ⟨f1, f2, f3, f4⟩ := fs2.2.1 F hC.1.2.2
  have hN2 := hC.2.2.2.2.1.un fs2 (by unfold Ow; omega) (by unfold Ow; omega)
  have hK2 := hK.2.2.2.2.1.un fs2 (by unfold Ow; omega) (by unfold Ow; omega)
  have p1 : nn m2 + pot YL.2.2.1 = nn m + pot Y2.2.2.1 := hq2.2.2.2.2.2.1
  have p2 : 16 * zz m2 + pot YL.2.2.1 ≤ 16 * zz m + pot Y2.2.2.1 := hq2.2.2.2.2.2.2.1
  obtain ⟨_, m3, ⟨rfl, A2, o3, g1, g2, g3, g4, g5⟩, E41⟩ := k_nbecome (G := G) hN2 hK2 (by unfold S2; omega) (by unfold S2; omega)
  obtain ⟨d1, d2, d3, d4⟩ := g3.2.1 F (Nat.lt_of_lt_of_le hC.1.2.2 fs2.1)
  have e3 := d4 (by rw [f1, hC.1.2.1]; unfold S2; omega)
  have hKS := hq2.ks.un g3 (fun c hc => by rw [show Y2.2.1 = YL.2.1 from hq2.2.2.2.1, hC.2.2.1.1] at hc; unfold Ow at hc; unfold S2; omega)
  have hC3 : CW m3 o3 F (rY Y2 o3) A2 kk kv nk sk nfk := ⟨⟨d2.trans (f2.trans hC.1.1), d1.trans (f1.trans hC.1.2.1), Nat.lt_of_lt_of_le hC.1.2.2 (Nat.le_trans fs2.1 g3.1)⟩, ⟨(e3.2.2.1 100).trans ((e2.2.2.1 100).trans (hC.2.1.1.trans (congrArg some (hSm 0 (by omega)).symm))), (e3.2.2.1 101).trans ((e2.2.2.1 101).trans (hC.2.1.2.trans (congrArg some g1.symm)))⟩, ⟨(show Y2.2.1 = YL.2.1 from hq2.2.2.2.1).trans hC.2.2.1.1, rfl⟩, hKS, g2, hK.2.2.2.2.2⟩
  have hPM : PM m o F YL AN m3 kk kv (gI m3 105 F) := ⟨o3, rY Y2 o3, A2, nk, sk, nfk, hC3, hSk, hHk, ⟨(fs2.up (fun c hc => Or.inr (Or.inr (Or.inr hc)))).tr (g3.up (fun c hc => hc.elim (fun z => Or.inr (Or.inl z)) (fun z => Or.inr (Or.inr (Or.inl z))))), fun f => (e3.2.2.1 f).trans (e2.2.2.1 f), (e3.1 106).trans (e2.1 106), by show nn m3 + pot YL.2.2.1 + AN.2.2 = nn m + pot Y2.2.2.1 + A2.2.2; omega, by show 16 * zz m3 + pot YL.2.2.1 + AN.2.2 ≤ 16 * zz m + pot Y2.2.2.1 + A2.2.2; omega⟩, rfl⟩
  have t2 : gT m2 F = 6 := f2.trans hC.1.1
  refine r_go (fun kk => e_lvs (lv' := [(0, .ref F)]) rfl kk) ?_
  refine r_go (fun kk => e_aload_n 0 dX5_load_0 rfl kk) ?_
  refine r_go (fun kk => e_getP (some (YK.1 0)) dX5_load_1 fl_X5_26 rfl hC.1.1 (hK.1) kk) ?_
  refine r_go (fun kk => e_ifnull dX5_load_4 kk) ?_
  refine r_go (fun kk => e_aload_n 0 dX5_load_7 rfl kk) ?_
  refine r_go (fun kk => e_getP (some AK.1) dX5_load_8 fl_X5_29 rfl hC.1.1 (hK.2.1) kk) ?_
  refine r_go (fun kk => e_ifnonnull 22 dX5_load_11 (by decide) kk) ?_
  refine r_go (fun kk => e_aload_n 0 dX5_load_22 rfl kk) ?_
  refine r_go (fun kk => e_getP (some (YL.1 0)) dX5_load_23 fl_X5_12 rfl hC.1.1 hC.2.1.1 kk) ?_
  refine r_go (fun kk => e_aload_n 0 dX5_load_26 rfl kk) ?_
  refine r_go (fun kk => e_getP (some (YK.1 0)) dX5_load_27 fl_X5_26 rfl hC.1.1 (hK.1) kk) ?_
  refine r_go (fun kk => e_callV (ci := 0) (st := []) (st1 := []) (As := [.ref (YK.1 0)]) (E30) dX5_load_30 (by decide) cm_X0_become lk_X5_201 im_X0_become rfl sel_X0_become (hq0.T 0 (by decide)) rfl rfl (Nat.le_of_ble_eq_true rfl) rfl kk) ?_
  refine r_go (fun kk => e_aload_n 0 dX5_load_33 rfl kk) ?_
  refine r_go (fun kk => e_getP (some AN.1) dX5_load_34 fl_X5_19 rfl t2 ((e2.2.2.1 101).trans hC.2.1.2) kk) ?_
  refine r_go (fun kk => e_aload_n 0 dX5_load_37 rfl kk) ?_
  refine r_go (fun kk => e_getP (some AK.1) dX5_load_38 fl_X5_29 rfl t2 ((e2.2.2.1 104).trans hK.2.1) kk) ?_
  refine r_go (fun kk => e_callV (ci := 1) (st := []) (st1 := []) (As := [.ref AK.1]) (E41) dX5_load_41 (by decide) cm_X1_become lk_X5_205 im_X1_become rfl sel_X1_become hN2.1.1 rfl rfl (Nat.le_of_ble_eq_true rfl) rfl kk) ?_
  refine r_go (fun kk => e_aload_n 0 dX5_load_44 rfl kk) ?_
  refine r_go (fun kk => e_ic (nI 0) dX5_load_45 (by decide) kk) ?_
  refine r_go (fun kk => e_putI (ci := 5) (k := 5) dX5_load_46 fl_X5_32 rfl (fun q h => by cases h; rfl) ⟨rfl, rfl⟩ hC3.1.1 kk) ?_
  refine r_go (fun kk => e_ic (nI 1) dX5_load_49 (by decide) kk) ?_
  exact r_ret ⟨rfl, hPM.f⟩ (e_retI dX5_load_50 rfl rfl rfl)

def FI (m : Mem) (o : Nat → Nat) (F : Nat) (YL : YY) (AN : Nat × Nat × Nat) (o' : Nat → Nat) (mm : Mem) : Prop := (∀ (kf : KF) (vf : VF) (nf : Nat → Int64), KI kf → kf 6 = nI 0 → CW mm o' F (rY YL o') AN kf vf 0 0 nf) ∧ FS SC m o mm o' ∧ zz mm = zz m + 275 ∧ nn mm = nn m + 6028
theorem ki_in : KI inK ∧ inK 6 = nI 0 := by
  have q1 : ∀ n j, ¬ (340 ≤ j ∧ j < 340 + n) → lp (fun p (k : KF) => upd k (340 + p) (-1)) n (lp (fun l k => upd k (240 + l) (-2)) 100 (c4 (upd (fun _ => 0) 2 (nI 1)))) j = lp (fun l (k : KF) => upd k (240 + l) (-2)) 100 (c4 (upd (fun _ => 0) 2 (nI 1))) j := by
    intro n
    induction n with
    | zero => intro j _; rfl
    | succ n ih => intro j hj; exact (upd_ne _ _ (by omega)).trans (ih j (by omega))
  have q1' : ∀ n j, j < n → lp (fun p (k : KF) => upd k (340 + p) (-1)) n (lp (fun l k => upd k (240 + l) (-2)) 100 (c4 (upd (fun _ => 0) 2 (nI 1)))) (340 + j) = -1 := by
    intro n
    induction n with
    | zero => intro j h; exact absurd h (Nat.not_lt_zero _)
    | succ n ih =>
      intro j h
      by_cases e : j = n
      · subst e
        exact upd_eq _ _ _
      · exact (upd_ne _ _ (by omega)).trans (ih j (by omega))
  have q2 : ∀ n j, ¬ (240 ≤ j ∧ j < 240 + n) → lp (fun l (k : KF) => upd k (240 + l) (-2)) n (c4 (upd (fun _ => 0) 2 (nI 1))) j = c4 (upd (fun _ => 0) 2 (nI 1)) j := by
    intro n
    induction n with
    | zero => intro j _; rfl
    | succ n ih => intro j hj; exact (upd_ne _ _ (by omega)).trans (ih j (by omega))
  have q2' : ∀ n j, j < n → lp (fun l (k : KF) => upd k (240 + l) (-2)) n (c4 (upd (fun _ => 0) 2 (nI 1))) (240 + j) = -2 := by
    intro n
    induction n with
    | zero => intro j h; exact absurd h (Nat.not_lt_zero _)
    | succ n ih =>
      intro j h
      by_cases e : j = n
      · subst e
        exact upd_eq _ _ _
      · exact (upd_ne _ _ (by omega)).trans (ih j (by omega))
  have lo : ∀ j, j < 240 → inK j = c4 (upd (fun _ => 0) 2 (nI 1)) j := fun j hj => (q1 32 j (by omega)).trans (q2 100 j (by omega))
  have l0 : ∀ j, j < 7 → j ≠ 2 → inK j = nI 0 := fun j h1 h2 => (lo j (by omega)).trans ((c4_at _ (by omega)).trans (upd_ne _ _ h2))
  refine ⟨⟨l0 0 (by omega) (by omega), l0 1 (by omega) (by omega), ?_, l0 3 (by omega) (by omega), l0 4 (by omega) (by omega), l0 5 (by omega) (by omega), fun i hi => (lo _ (by omega)).trans (c4_m _ hi), fun i hi => ?_, fun l hl => ?_, fun p hp => q1' 32 p hp⟩, l0 6 (by omega) (by omega)⟩
  · exact (lo 2 (by omega)).trans ((c4_at _ (by omega)).trans (upd_eq _ _ _))
  · exact (lo _ (by omega)).trans ((c4_at _ (by omega)).trans (upd_ne _ _ (by omega)))
  · exact (q1 32 _ (by omega)).trans (q2' 100 l hl)
theorem FI.t {m : Mem} {o : Nat → Nat} {F : Nat} {YL : YY} {AN : Nat × Nat × Nat} {o' : Nat → Nat} {mm : Mem} (h : FI m o F YL AN o' mm) : gT mm F = 6 := (h.1 inK (fun _ => 0) (fun _ => 0) ki_in.1 ki_in.2).1.1
theorem fi_s {m : Mem} {o : Nat → Nat} {F : Nat} {YL : YY} {AN : Nat × Nat × Nat} {o' : Nat → Nat} {mm mn : Mem} (h : FI m o F YL AN o' mm) (hT : gT mn = gT mm) (hN : gN mn = gN mm) (hz : zz mn = zz mm) (hn : nn mn = nn mm) (he : ∀ q, q ≠ F → Eqa mm mn q) (hP : ∀ f, f < 102 → gP mn f F = gP mm f F) : FI m o F YL AN o' mn := by
  have c := h.1 inK (fun _ => 0) (fun _ => 0) ki_in.1 ki_in.2
  have fs : FS (fun q => q = 8) mm o' mn o' := FS.wr (a := F) c.1.2.1 hT hN hz he
  exact ⟨fun kf vf nf h1 h2 => (h.1 kf vf nf h1 h2).un fs (fun c _ h => h) hP, h.2.1.tr (fs.up (fun c hc => Or.inl hc)), hz.trans h.2.2.1, hn.trans h.2.2.2⟩
theorem FI.i {m : Mem} {o : Nat → Nat} {F f : Nat} {YL : YY} {AN : Nat × Nat × Nat} {o' : Nat → Nat} {mm : Mem} {x : Int32} (h : FI m o F YL AN o' mm) : FI m o F YL AN o' (sI mm f F x) := fi_s h rfl rfl rfl rfl (fun q hq => eqa_sI hq) (fun _ _ => rfl)
theorem FI.p {m : Mem} {o : Nat → Nat} {F f : Nat} {YL : YY} {AN : Nat × Nat × Nat} {o' : Nat → Nat} {mm : Mem} {x : Option Nat} (h : FI m o F YL AN o' mm) (hf : 102 ≤ f) : FI m o F YL AN o' (sP mm f F x) := fi_s h rfl rfl rfl rfl (fun q hq => eqa_sP hq) (fun g hg => u2_nf _ _ (by omega))

set_option maxRecDepth 100000 in
set_option maxHeartbeats 4000000 in
theorem k5_init (hT : gT m F = 6) (hz : F < zz m) (ho : o F = 8) (hfr : ∀ q, q < zz m → ¬ Ow 1000 (o q)) : EvC G 3 uX5_init [.ref F] m (fun r mm => r = none ∧ ∃ o' YL AN, (∀ (kf : KF) (vf : VF) (nf : Nat → Int64), KI kf → kf 6 = nI 0 → CW mm o' F YL AN kf vf 0 0 nf) ∧ FS SC m o mm o' ∧ (gP mm 102 F = none ∧ gP mm 103 F = none ∧ gP mm 104 F = none) ∧ (gI mm 105 F = nI 0 ∧ gI mm 106 F = -1) ∧ pot YL.2.2.1 = 1344 ∧ AN.2.2 = 256 ∧ zz mm = zz m + 275 ∧ nn mm = nn m + 6028) := by
  refine EvC.of (by decide +kernel) (Nat.le_of_ble_eq_true rfl) ?_
  refine r_go (fun kk => e_lvs (lv' := [(0, .ref F)]) rfl kk) ?_
  refine r_go (fun kk => e_aload_n 0 dX5_init_0 rfl kk) ?_
  refine r_go (fun kk => e_objInit dX5_init_1 lkm_X5_3 im_obj code_obj (by decide) kk) ?_
  refine r_go (fun kk => e_aload_n 0 dX5_init_4 rfl kk) ?_
  refine r_go (fun kk => e_new (ci := 0) dX5_init_5 rfl cl_X5_9 ins_X0 ini_X0 kk) ?_
  refine r_go (fun kk => e_dup dX5_init_8 rfl kk) ?_
  obtain ⟨_, m2, ⟨rfl, k1, k2, k3, k4, k5, k6⟩, Ek⟩ := k_kinit (G := G) (m := nw m 1 12) (o := fun q => if q = zz m then 1000 else o q) (a := zz m) (b := 1000) (nw_0 m 1 12).1 (Nat.lt_succ_self _) (if_pos rfl) (kn_fr hfr)
  refine r_go (fun kk => e_callI (st := [.ref (zz m), .ref F]) (As := []) Ek dX5_init_9 (by decide) cm_X0_init rfl rfl lk_X5_11 im_X0_init rfl rfl (Nat.le_of_ble_eq_true rfl) kk) ?_
  have kf1 := kn_fs k4
  obtain ⟨x1, x2, x3, x4⟩ := kf1.2.1 F hz
  have xe := x4 (by rw [ho]; unfold Ow; omega)
  refine r_go (fun kk => e_putF (ci := 5) (k := 0) (some (zz m)) dX5_init_12 rfl (by decide) fl_X5_12m rfl rfl rfl rfl ⟨rfl, rfl⟩ rfl (x2.trans hT) kk) ?_
  have kv := k3
  generalize hYg : kiY (fun q => if q = zz m then 1000 else o q) (zz m) (zz (nw m 1 12)) 1000 = YL at k1 k2 kv
  have y0 : YL.1 0 = zz m := by rw [← hYg]; rfl
  have yb : YL.2.1 = 1000 := by rw [← hYg]; rfl
  have yo : YL.2.2.2 = kiO (fun q => if q = zz m then 1000 else o q) (zz (nw m 1 12)) 1000 := by rw [← hYg]; rfl
  have yg : pot YL.2.2.1 = 1344 := by rw [← hYg]; exact kiG_pot
  rw [← yo] at kf1 x1
  clear hYg yo
  have hks : ∀ (kf : KF) (vf : VF), KI kf → KS m2 YL 62000 kf vf 0 := fun kf vf h => ⟨k1, kv 62000 kf vf h, k2⟩
  have sf := sP_f m2 100 F (some (zz m))
  have nz : zz (nw m 1 12) = zz m + 1 := rfl
  have nn1 : nn (nw m 1 12) = nn m + 12 := rfl
  generalize sP m2 100 F (some (zz m)) = m3 at sf ⊢
  obtain ⟨s1, s2, s3, s4, s5, s6, s7, s8, s9, s10, s11, s12⟩ := sf
  have fsP : FS (fun q => q = 8) m2 YL.2.2.2 m3 YL.2.2.2 := FS.wr (a := F) (x1.trans ho) s3 s4 s1 s12
  have hd8 : ∀ c, Ow YL.2.1 c → ¬ (c = 8) := fun c hc => by rw [yb] at hc; unfold Ow at hc; omega
  have hks3 := fun kf vf h => (hks kf vf h).un fsP hd8
  have z3 : F < zz m3 := by rw [s1]; exact Nat.lt_of_lt_of_le hz kf1.1
  have t3 : gT m3 F = 6 := by rw [s3]; exact x2.trans hT
  refine r_go (fun kk => e_aload_n 0 dX5_init_15 rfl kk) ?_
  refine r_go (fun kk => e_new (ci := 1) dX5_init_16 rfl cl_X5_16 ins_X1 ini_X1 kk) ?_
  refine r_go (fun kk => e_dup dX5_init_19 rfl kk) ?_
  refine r_go (fun kk => e_callI (st := [.ref (zz m3), .ref F]) (As := []) (x_notesInit (G := G) (m := nw m3 2 2) (a := zz m3) (nw_0 m3 2 2).1 (Nat.lt_succ_self _)) dX5_init_20 (by decide) cm_X1_init rfl rfl lk_X5_18 im_X1_init rfl rfl (Nat.le_of_ble_eq_true rfl) kk) ?_
  generalize hX : niM (nw m3 2 2) (zz m3) = X
  have nbs := fun nf => nb_ns YL.2.2.2 10 nf hX.symm
  obtain ⟨b1, -, b3, b4, b5⟩ := nbs (fun _ => 0)
  obtain ⟨w1, w2, w3, w4⟩ := b1.2.1 F z3
  have we := w4 (by rw [x1, ho]; unfold S2; omega)
  refine r_go (fun kk => e_putF (ci := 5) (k := 1) (some (zz m3)) dX5_init_23 rfl (by decide) fl_X5_19m rfl rfl rfl rfl ⟨rfl, rfl⟩ rfl (w2.trans t3) kk) ?_
  have hdS : ∀ c, Ow (rY YL YL.2.2.2).2.1 c → ¬ S2 10 c := fun c hc => by rw [show (rY YL YL.2.2.2).2.1 = 1000 from yb] at hc; unfold Ow at hc; unfold S2; omega
  have hks4 := fun kf vf h => (hks3 kf vf h).un b1 hdS
  have sg := sP_f X 101 F (some (zz m3))
  generalize sP X 101 F (some (zz m3)) = m5 at sg ⊢
  obtain ⟨q1, q2, q3, q4, q5, q6, q7, q8, q9, q10, q11, q12⟩ := sg
  generalize hoo : nO YL.2.2.2 (zz m3) 10 = o5 at *
  have t6 : gT m5 F = 6 := by rw [q3]; exact w2.trans t3
  have o8 : o5 F = 8 := w1.trans (x1.trans ho)
  have p100 : gP m5 100 F = some (YL.1 0) := (q11 100 F (Or.inl (by omega))).trans ((we.2.2.1 100).trans (s10.trans (congrArg some y0.symm)))
  have fsQ : FS (fun q => q = 8) X o5 m5 o5 := FS.wr (a := F) o8 q3 q4 q1 q12
  have fsA : FS SC m o m5 o5 := (kf1.up (fun c hc => Or.inr (Or.inr (Or.inr hc)))).tr ((fsP.up (fun c hc => Or.inl hc)).tr ((b1.up (fun c hc => hc.elim (fun z => Or.inr (Or.inl z)) (fun z => Or.inr (Or.inr (Or.inl z))))).tr (fsQ.up (fun c hc => Or.inl hc))))
  have hCW : ∀ (kf : KF) (vf : VF) (nf : Nat → Int64), KI kf → kf 6 = nI 0 → CW m5 o5 F (rY YL o5) (zz m3, zz m3 + 1, 256) kf vf 0 0 nf := fun kf vf nf h h6 => ⟨⟨t6, o8, by rw [q1]; exact Nat.lt_of_lt_of_le z3 b1.1⟩, ⟨p100, q10⟩, ⟨yb, rfl⟩, (hks4 kf vf h).un fsQ hd8, (nbs nf).2.1.un fsQ (by omega) (by omega), h6⟩
  have zA : zz m5 = zz m + 275 := by omega
  have nA : nn m5 = nn m + 6028 := by omega
  clear hks hks3 hks4 nbs
  refine r_gen (fun mm => FI m o F YL (zz m3, zz m3 + 1, 256) o5 mm ∧ True) ⟨⟨hCW, fsA, zA, nA⟩, trivial⟩ (fun u0 hy => ?_)
  obtain ⟨hI, -⟩ := hy
  refine r_go (fun kk => e_aload_n 0 dX5_init_26 rfl kk) ?_
  refine r_go (fun kk => e_null dX5_init_27 kk) ?_
  refine r_go (fun kk => e_putP (ci := 5) (k := 2) none dX5_init_28 fl_X5_23 rfl (fun q h => by cases h; rfl) ⟨rfl, rfl⟩ rfl hI.t kk) ?_
  refine r_gen (fun mm => FI m o F YL (zz m3, zz m3 + 1, 256) o5 mm ∧ gP mm 102 F = none) ⟨hI.p (by omega), u2_eq (gP u0) 102 F none⟩ (fun u1 hy => ?_)
  obtain ⟨hI, f0⟩ := hy
  refine r_go (fun kk => e_aload_n 0 dX5_init_31 rfl kk) ?_
  refine r_go (fun kk => e_null dX5_init_32 kk) ?_
  refine r_go (fun kk => e_putP (ci := 5) (k := 3) none dX5_init_33 fl_X5_26 rfl (fun q h => by cases h; rfl) ⟨rfl, rfl⟩ rfl hI.t kk) ?_
  refine r_gen (fun mm => FI m o F YL (zz m3, zz m3 + 1, 256) o5 mm ∧ gP mm 102 F = none ∧ gP mm 103 F = none) ⟨hI.p (by omega), ((sP_f u1 103 F none).2.2.2.2.2.2.2.2.2.2.1 102 F (Or.inl (by omega))).trans f0, u2_eq (gP u1) 103 F none⟩ (fun u2 hy => ?_)
  obtain ⟨hI, f0, f1⟩ := hy
  refine r_go (fun kk => e_aload_n 0 dX5_init_36 rfl kk) ?_
  refine r_go (fun kk => e_null dX5_init_37 kk) ?_
  refine r_go (fun kk => e_putP (ci := 5) (k := 4) none dX5_init_38 fl_X5_29 rfl (fun q h => by cases h; rfl) ⟨rfl, rfl⟩ rfl hI.t kk) ?_
  refine r_gen (fun mm => FI m o F YL (zz m3, zz m3 + 1, 256) o5 mm ∧ gP mm 102 F = none ∧ gP mm 103 F = none ∧ gP mm 104 F = none) ⟨hI.p (by omega), ((sP_f u2 104 F none).2.2.2.2.2.2.2.2.2.2.1 102 F (Or.inl (by omega))).trans f0, ((sP_f u2 104 F none).2.2.2.2.2.2.2.2.2.2.1 103 F (Or.inl (by omega))).trans f1, u2_eq (gP u2) 104 F none⟩ (fun u3 hy => ?_)
  obtain ⟨hI, f0, f1, f2⟩ := hy
  refine r_go (fun kk => e_aload_n 0 dX5_init_41 rfl kk) ?_
  refine r_go (fun kk => e_ic (nI 0) dX5_init_42 (by decide) kk) ?_
  refine r_go (fun kk => e_putI (ci := 5) (k := 5) dX5_init_43 fl_X5_32 rfl (fun q h => by cases h; rfl) ⟨rfl, rfl⟩ hI.t kk) ?_
  refine r_gen (fun mm => FI m o F YL (zz m3, zz m3 + 1, 256) o5 mm ∧ gP mm 102 F = none ∧ gP mm 103 F = none ∧ gP mm 104 F = none ∧ gI mm 105 F = nI 0) ⟨hI.i, f0, f1, f2, u2_eq (gI u3) 105 F (nI 0)⟩ (fun u4 hy => ?_)
  obtain ⟨hI, f0, f1, f2, f3⟩ := hy
  refine r_go (fun kk => e_aload_n 0 dX5_init_46 rfl kk) ?_
  refine r_go (fun kk => e_ic ((-1)) dX5_init_47 (by decide) kk) ?_
  refine r_go (fun kk => e_putI (ci := 5) (k := 6) dX5_init_48 fl_X5_36 rfl (fun q h => by cases h; rfl) ⟨rfl, rfl⟩ hI.t kk) ?_
  refine r_gen (fun mm => FI m o F YL (zz m3, zz m3 + 1, 256) o5 mm ∧ gP mm 102 F = none ∧ gP mm 103 F = none ∧ gP mm 104 F = none ∧ gI mm 105 F = nI 0 ∧ gI mm 106 F = -1) ⟨hI.i, f0, f1, f2, (gI_nf (by omega)).trans f3, u2_eq (gI u4) 106 F (-1)⟩ (fun u5 hy => ?_)
  obtain ⟨hI, f0, f1, f2, f3, f4⟩ := hy
  exact r_ret ⟨rfl, o5, rY YL o5, _, hI.1, hI.2.1, ⟨f0, f1, f2⟩, ⟨f3, f4⟩, yg, rfl, hI.2.2⟩ (e_retV dX5_init_51 rfl rfl)

end Class37
