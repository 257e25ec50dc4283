/-! the class: refused, noted -/
theorem EvC.ex {G : GG} {d : Nat} {u : MI} {args : List Value} {m mF : Mem} {r : Option Value} {Q : Option Value → Mem → Prop} (h : Ev G d u args m r mF) (q : Q r mF) : EvC G d u args m Q := ⟨r, mF, q, h⟩
theorem rl_6 {ρ n j : Nat} {k : KF} (hρ : 62000 ≤ ρ) (h : Rl ρ k n j) : j ≠ 6 := by
  unfold Rl at h
  rcases h with z | z | ⟨z1, z2, z3⟩ | z | z | ⟨t, w, z1, z2, z3⟩ | ⟨t, i, z1, z2, z3, z4, z5⟩ | ⟨p, i, z1, z2, z3, z4⟩ | ⟨i, z1, z2, z3⟩ <;> omega
theorem CW.note {m m1 : Mem} {o o1 : Nat → Nat} {F : Nat} {YL : YY} {AN A1 : Nat × Nat × Nat} {kf : KF} {vf : VF} {n s : Nat} {nf nf1 : Nat → Int64} (h : CW m o F YL AN kf vf n s nf) (hN : NS m1 o1 10 A1 (s + 1) nf1) (hA : A1.1 = AN.1) (fs : FS (S2 10) m o m1 o1) (ha : nn m1 + AN.2.2 = nn m + A1.2.2) (hz : 16 * zz m1 + AN.2.2 ≤ 16 * zz m + A1.2.2) : CW m1 o1 F (rY YL o1) A1 (upd kf 6 (nI (s + 1))) vf n (s + 1) nf1 ∧ FR m o F YL AN m1 o1 (rY YL o1) A1 := by
  obtain ⟨⟨g1, g2, g3⟩, ⟨g4, g4'⟩, ⟨g5, g5'⟩, g6, g7, g8⟩ := h
  obtain ⟨a1, a2, a3, a4⟩ := fs.2.1 F g3
  have e := a4 (by rw [g2]; unfold S2; omega)
  have u := g6.un (by rw [g5']; exact fs) (fun c hc => by rw [g5] at hc; unfold Ow at hc; unfold S2; omega)
  refine ⟨⟨⟨a2.trans g1, a1.trans g2, Nat.lt_of_lt_of_le g3 fs.1⟩, ⟨?_, ?_⟩, ⟨g5, rfl⟩, ⟨u.1, u.2.1.cgk (by omega) u.1 (fun j hj => upd_ne _ _ (rl_6 (by omega) hj)) (fun _ _ => rfl), u.2.2⟩, hN, upd_eq _ _ _⟩, ⟨fs.up (fun c hc => hc.elim (fun z => Or.inr (Or.inl z)) (fun z => Or.inr (Or.inr (Or.inl z)))), e.2.2.1, e.1 106, ?_, ?_⟩⟩
  · rw [e.2.2.1]
    exact g4
  · rw [e.2.2.1, hA]
    exact g4'
  · show nn m1 + pot YL.2.2.1 + AN.2.2 = nn m + pot YL.2.2.1 + A1.2.2
    omega
  · show 16 * zz m1 + pot YL.2.2.1 + AN.2.2 ≤ 16 * zz m + pot YL.2.2.1 + A1.2.2
    omega
section Class28
variable {G : GG} {m : Mem} {o : Nat → Nat} {F : Nat} {YL : YY} {AN : Nat × Nat × Nat} {kf : KF} {vf : VF} {n s : Nat} {nf : Nat → Int64}

set_option maxRecDepth 100000 in
set_option maxHeartbeats 4000000 in
theorem k_refused (ht : gT m F = 6) (x : Int32) : Ev G 0 uX5_refused [.ref F, .int x] m (some (.int (-1))) (sI m 105 F x) := by
  refine Ev.of (by decide +kernel) (Nat.le_of_ble_eq_true rfl) ?_
  refine e_lvs (lv' := [(0, .ref F), (1, .int x)]) rfl ?_
  refine e_aload_n 0 dX5_refused_0 rfl ?_
  refine e_iload_n 1 dX5_refused_1 rfl ?_
  refine e_putI (ci := 5) (k := 5) dX5_refused_2 fl_X5_32 rfl (fun q h => by cases h; rfl) ⟨rfl, rfl⟩ ht ?_
  refine e_ic ((-1)) dX5_refused_5 (by decide) ?_
  exact e_retI dX5_refused_6 rfl rfl rfl

set_option maxRecDepth 100000 in
set_option maxHeartbeats 4000000 in
theorem k_noted0 (hC : CW m o F YL AN kf vf n s nf) (hs : s = 1000) (x : Int32) (x1 x2 x3 : Int64) : Ev G 3 uX5_noted [.ref F, .int x, .long x1, .long x2, .long x3] m (some (.int (nI 0))) (sI m 105 F (nI 5)) := by
  refine Ev.of (by decide +kernel) (Nat.le_of_ble_eq_true rfl) ?_
  refine e_lvs (lv' := [(0, .ref F), (1, .int x), (2, .long x1), (4, .long x2), (6, .long x3)]) rfl ?_
  refine e_aload_n 0 dX5_noted_0 rfl ?_
  refine e_getP (some AN.1) dX5_noted_1 fl_X5_19 rfl hC.1.1 hC.2.1.2 ?_
  refine e_iload_n 1 dX5_noted_4 rfl ?_
  refine e_lload_n 2 dX5_noted_5 rfl ?_
  refine e_lload 3 dX5_noted_6 rfl ?_
  refine e_lload 4 dX5_noted_8 rfl ?_
  refine e_callV (ci := 1) (st := []) (st1 := [.int (nI 0)]) (As := [.int x, .long x1, .long x2, .long x3]) (k_notesAddF (G := G) hC.2.2.2.2.1 hs x x1 x2 x3) dX5_noted_10 (by decide) cm_X1_add lk_X5_212 im_X1_add rfl sel_X1_add hC.2.2.2.2.1.1.1 rfl rfl (Nat.le_of_ble_eq_true rfl) rfl ?_
  refine e_istore (lv' := [(8, .int (nI 0)), (0, .ref F), (1, .int x), (2, .long x1), (4, .long x2), (6, .long x3)]) dX5_noted_13 (by decide) rfl ?_
  refine e_aload_n 1 dX5_noted_15 rfl ?_
  refine e_iload 0 dX5_noted_16 rfl ?_
  refine e_if_eq 25 dX5_noted_18 (by decide) (fun _ => ?_) (fun h => absurd h (by decide))
  refine e_ic (nI 5) dX5_noted_25 (by decide) ?_
  refine e_putI (ci := 5) (k := 5) dX5_noted_26 fl_X5_32 rfl (fun q h => by cases h; rfl) ⟨rfl, rfl⟩ hC.1.1 ?_
  refine e_iload 0 dX5_noted_29 rfl ?_
  exact e_retI dX5_noted_31 rfl rfl rfl

set_option maxRecDepth 100000 in
set_option maxHeartbeats 4000000 in
theorem k_noted1 (hC : CW m o F YL AN kf vf n s nf) (hs : s < 1000) (x : Int32) (x1 x2 x3 : Int64) : EvC G 3 uX5_noted [.ref F, .int x, .long x1, .long x2, .long x3] m (fun r mm => r = some (.int (nI 1)) ∧ ∃ o1 A1, CW mm o1 F (rY YL o1) A1 (upd kf 6 (nI (s + 1))) vf n (s + 1) (nfP nf s x.toInt64 x1 x2 x3) ∧ FR m o F YL AN mm o1 (rY YL o1) A1 ∧ gI mm 105 F = nI 0) := by
  refine EvC.of (by decide +kernel) (Nat.le_of_ble_eq_true rfl) ?_
  refine r_go (fun kk => e_lvs (lv' := [(0, .ref F), (1, .int x), (2, .long x1), (4, .long x2), (6, .long x3)]) rfl kk) ?_
  refine r_go (fun kk => e_aload_n 0 dX5_noted_0 rfl kk) ?_
  refine r_go (fun kk => e_getP (some AN.1) dX5_noted_1 fl_X5_19 rfl hC.1.1 hC.2.1.2 kk) ?_
  refine r_go (fun kk => e_iload_n 1 dX5_noted_4 rfl kk) ?_
  refine r_go (fun kk => e_lload_n 2 dX5_noted_5 rfl kk) ?_
  refine r_go (fun kk => e_lload 3 dX5_noted_6 rfl kk) ?_
  refine r_go (fun kk => e_lload 4 dX5_noted_8 rfl kk) ?_
  obtain ⟨_, m1, ⟨rfl, A1, o1, g1, g2, g3, g4, g5⟩, E0x10⟩ := k_notesAdd (G := G) hC.2.2.2.2.1 hs x x1 x2 x3
  have hC1 := hC.note g2 g1 g3 g4 g5
  refine r_go (fun kk => e_callV (ci := 1) (st := []) (st1 := [.int (nI 1)]) (As := [.int x, .long x1, .long x2, .long x3]) (E0x10) dX5_noted_10 (by decide) cm_X1_add lk_X5_212 im_X1_add rfl sel_X1_add hC.2.2.2.2.1.1.1 rfl rfl (Nat.le_of_ble_eq_true rfl) rfl kk) ?_
  refine r_go (fun kk => e_istore (lv' := [(8, .int (nI 1)), (0, .ref F), (1, .int x), (2, .long x1), (4, .long x2), (6, .long x3)]) dX5_noted_13 (by decide) rfl kk) ?_
  refine r_go (fun kk => e_aload_n 1 dX5_noted_15 rfl kk) ?_
  refine r_go (fun kk => e_iload 0 dX5_noted_16 rfl kk) ?_
  refine r_go (fun kk => e_if_eq 25 dX5_noted_18 (by decide) (fun h => absurd h (by decide)) (fun _ => kk)) ?_
  refine r_go (fun kk => e_ic (nI 0) dX5_noted_21 (by decide) kk) ?_
  refine r_go (fun kk => e_goto 26 dX5_noted_22 (by decide) kk) ?_
  refine r_go (fun kk => e_putI (ci := 5) (k := 5) dX5_noted_26 fl_X5_32 rfl (fun q h => by cases h; rfl) ⟨rfl, rfl⟩ hC1.1.1.1 kk) ?_
  refine r_go (fun kk => e_iload 0 dX5_noted_29 rfl kk) ?_
  obtain ⟨b1, b2⟩ := hC1.1.f 105 (nI 0)
  exact r_ret ⟨rfl, o1, A1, b1, hC1.2.tr ⟨b2.up (fun c hc => Or.inl hc), fun _ => rfl, gI_nf (by omega), rfl, Nat.le_refl _⟩, u2_eq (gI m1) 105 F (nI 0)⟩ (e_retI dX5_noted_31 rfl rfl rfl)

end Class28
