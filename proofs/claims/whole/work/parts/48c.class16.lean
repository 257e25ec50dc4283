/-! the class: choosing -/
theorem lt0_z (lf : Nat → Int32) (u : Nat) : ∀ c, u < c → lp (fun t l => upd l t (nI 0)) c lf u = nI 0 := by
  intro c
  induction c with
  | zero => intro h; exact absurd h (Nat.not_lt_zero _)
  | succ c ih =>
    intro h
    show upd (lp (fun t l => upd l t (nI 0)) c lf) c (nI 0) u = nI 0
    by_cases e : u = c
    · subst e
      exact upd_eq _ _ _
    · rw [upd_ne _ _ e]
      exact ih (by omega)
section Class16
variable {G : GG} {Z : Mem × YY} {m : Mem} {Y : YY} {ρ n : Nat} {kf : KF} {vf : VF}
theorem KQ.c4 (h : KQ Z m Y ρ kf vf n) (hρ : 62000 ≤ ρ) : KQ Z (flM m (Y.1 6) (-1) 4) Y ρ (c4 kf) vf n :=
  (((h.ch hρ (i := 0) (by omega)).ch hρ (i := 1) (by omega)).ch hρ (i := 2) (by omega)).ch hρ (i := 3) (by omega)
/-- the rows, where they are put, in both places -/
theorem ptF_ρ (k : KF) (c : Nat) (a b s d e : Int32) (hc : c < 8000) (hρ2 : ρ = 62000 ∨ ρ = 102000) : ptF k (5 * c) a b s d e (ρ + 5 * c + 0) = a ∧ ptF k (5 * c) a b s d e (ρ + 5 * c + 1) = b ∧ ptF k (5 * c) a b s d e (ρ + 5 * c + 2) = s ∧ ptF k (5 * c) a b s d e (ρ + 5 * c + 3) = d ∧ ptF k (5 * c) a b s d e (ρ + 5 * c + 4) = e ∧ ∀ i, i < 5 * c → ptF k (5 * c) a b s d e (ρ + i) = k (ρ + i) := by
  unfold ptF
  rcases hρ2 with rfl | rfl
  · refine ⟨?_, ?_, ?_, ?_, ?_, fun i hi => ?_⟩
    · rw [upd_ne _ _ (by omega), upd_ne _ _ (by omega), upd_ne _ _ (by omega), upd_ne _ _ (by omega), upd_ne _ _ (by omega), upd_ne _ _ (by omega), upd_ne _ _ (by omega), upd_ne _ _ (by omega), upd_ne _ _ (by omega), upd_eq]
    · rw [upd_ne _ _ (by omega), upd_ne _ _ (by omega), upd_ne _ _ (by omega), upd_ne _ _ (by omega), upd_ne _ _ (by omega), upd_ne _ _ (by omega), upd_ne _ _ (by omega), upd_eq]
    · rw [upd_ne _ _ (by omega), upd_ne _ _ (by omega), upd_ne _ _ (by omega), upd_ne _ _ (by omega), upd_ne _ _ (by omega), upd_eq]
    · rw [upd_ne _ _ (by omega), upd_ne _ _ (by omega), upd_ne _ _ (by omega), upd_eq]
    · rw [upd_ne _ _ (by omega), upd_eq]
    · rw [upd_ne _ _ (by omega), upd_ne _ _ (by omega), upd_ne _ _ (by omega), upd_ne _ _ (by omega), upd_ne _ _ (by omega), upd_ne _ _ (by omega), upd_ne _ _ (by omega), upd_ne _ _ (by omega), upd_ne _ _ (by omega), upd_ne _ _ (by omega)]
  · refine ⟨?_, ?_, ?_, ?_, ?_, fun i hi => ?_⟩
    · rw [upd_ne _ _ (by omega), upd_ne _ _ (by omega), upd_ne _ _ (by omega), upd_ne _ _ (by omega), upd_ne _ _ (by omega), upd_ne _ _ (by omega), upd_ne _ _ (by omega), upd_ne _ _ (by omega), upd_eq]
    · rw [upd_ne _ _ (by omega), upd_ne _ _ (by omega), upd_ne _ _ (by omega), upd_ne _ _ (by omega), upd_ne _ _ (by omega), upd_ne _ _ (by omega), upd_eq]
    · rw [upd_ne _ _ (by omega), upd_ne _ _ (by omega), upd_ne _ _ (by omega), upd_ne _ _ (by omega), upd_eq]
    · rw [upd_ne _ _ (by omega), upd_ne _ _ (by omega), upd_eq]
    · rw [upd_eq]
    · rw [upd_ne _ _ (by omega), upd_ne _ _ (by omega), upd_ne _ _ (by omega), upd_ne _ _ (by omega), upd_ne _ _ (by omega), upd_ne _ _ (by omega), upd_ne _ _ (by omega), upd_ne _ _ (by omega), upd_ne _ _ (by omega), upd_ne _ _ (by omega)]

set_option maxRecDepth 100000 in
set_option maxHeartbeats 4000000 in
theorem k_choose (hq : KQ Z m Y ρ kf vf n) (hρ : 62000 ≤ ρ) (hρ2 : ρ = 62000 ∨ ρ = 102000) (hW : WF kf n) (hR : RH kf vf n) {r P : Nat} (h3 : kf 3 = nI r) (hr : r + 4 ≤ 8000) (h2 : kf 2 = nI P) (hP4 : P ≤ 4) (lf : Nat → Int32) : EvC G 3 uX0_choose [.ref (Y.1 0)] m (fun r mm => r = none ∧ ∃ Y2, Sm Y Y2 ∧ KQ Z mm Y2 ρ (lp (chS vf) P (c4 kf, lt0 lf)).1 vf n) := by
  refine EvC.of (by decide +kernel) (Nat.le_of_ble_eq_true rfl) ?_
  have hn2 := hq.n2
  have hC0 : CI n r P 0 (c4 kf, lt0 lf) := ⟨wf_c4 hW, by dsimp only; rw [c4_at _ (by omega)]; exact h2, ⟨r, by omega, by dsimp only; rw [c4_at _ (by omega)]; exact h3⟩, fun q hq => Or.inl (c4_m _ hq)⟩
  have L : ∀ (k p : Nat) (M : Mem) (Y1 : YY) (K : KF) (lf' : Nat → Int32) (y : Int64), p + k = P → KQ Z M Y1 ρ K vf n → Sm Y Y1 → (∀ t, t < n → gL M 98 (Y1.1 (9 + t)) = rkA kf vf (stnd kf vf t)) → lp (chS vf) p (c4 kf, lt0 lf) = (K, lf') → (∀ i, RT i → K i = kf i) → (∀ u, u < n → kg kf u 6 = 0 → (lf' u = 0 ↔ y < rkA kf vf (stnd kf vf u))) → EvR G 3 uX0_choose (zz m) (nn m) (fun r mm => r = none ∧ ∃ Y2, Sm Y Y2 ∧ KQ Z mm Y2 ρ (lp (chS vf) P (c4 kf, lt0 lf)).1 vf n) 18 [(3, .int (nI p)), (1, .long y), (0, .ref (Y1.1 0))] [] M := by
    intro k
    induction k with
    | zero =>
      intro p M Y1 K lf' y hp hI hS hL hs hE hy
      have hpP : p = P := by omega
      subst hpP
      have hK2 : K 2 = nI p := by
        have := (hC0.all (vf := vf) hr p hP4).2.1
        rw [hs] at this
        exact this
      refine r_go (fun kk => e_iload_n 0 dX0_choose_18 rfl kk) ?_
      refine r_go (fun kk => e_aload_n 2 dX0_choose_19 rfl kk) ?_
      refine r_go (fun kk => e_getIv (K 2) dX0_choose_20 fl_X0_50 rfl (hI.T 0 (by decide)) hI.2.1.1.2.2.1 (e_iv (w := nI p) (hK2) kk)) ?_
      refine r_go (fun kk => e_icmp_geN 92 dX0_choose_23 (by decide) (by omega) (by omega) (fun _ => kk) (fun h => absurd h (by omega))) ?_
      exact r_ret ⟨rfl, Y1, hS, by rw [hs]; exact hI⟩ (e_retV dX0_choose_92 rfl rfl)
    | succ k ih =>
      intro p M Y1 K lf' y hp hI hS hL hs hE hy
      have hCI := hC0.all (vf := vf) hr p (by omega)
      rw [hs] at hCI
      obtain ⟨hWK, hK2, ⟨c, hc, hK3⟩, hq⟩ := hCI
      dsimp only at hWK hK2 hK3 hq
      have hRK := rh_cg hn2 hE hR
      have g6 : ∀ u, u < n → kg K u 6 = kg kf u 6 := fun u hu => hE _ (by unfold RT; omega)
      have hst : ∀ u, u < n → stnd K vf u = stnd kf vf u := fun u hu => stnd_cg hW hE hu
      have hrk : ∀ u, u < n → rkA K vf (stnd K vf u) = rkA kf vf (stnd kf vf u) := fun u hu => by rw [hst u hu, rk_cg hn2 hE (stnd_min hW hR hu).1]
      have hLK : ∀ t, t < n → gL M 98 (Y1.1 (9 + t)) = rkA K vf (stnd K vf t) := fun t ht => by rw [hrk t ht]; exact hL t ht
      have hPr : ∀ u, u < n → (rdP K lf' u = true ↔ kg K u 6 = 0 ∧ y < rkA K vf (stnd K vf u)) := fun u hu => by
        rw [hrk u hu, g6 u hu]
        unfold rdP
        rw [g6 u hu]
        constructor
        · intro z
          simp at z
          exact ⟨z.1, (hy u hu z.1).mp z.2⟩
        · rintro ⟨z1, z2⟩
          simp
          exact ⟨z1, (hy u hu z1).mpr z2⟩
      have E := k_foremostBehind (G := G) hI hWK hRK hLK (rdP K lf') y hPr
      have hsp : lp (chS vf) (p + 1) (c4 kf, lt0 lf) = chF K vf lf' p := by
        show chF (lp (chS vf) p (c4 kf, lt0 lf)).1 vf (lp (chS vf) p (c4 kf, lt0 lf)).2 p = _
        rw [hs]
      refine r_go (fun kk => e_iload_n 0 dX0_choose_18 rfl kk) ?_
      refine r_go (fun kk => e_aload_n 2 dX0_choose_19 rfl kk) ?_
      refine r_go (fun kk => e_getIv (K 2) dX0_choose_20 fl_X0_50 rfl (hI.T 0 (by decide)) hI.2.1.1.2.2.1 (e_iv (w := nI P) (hK2) kk)) ?_
      refine r_go (fun kk => e_icmp_geN 92 dX0_choose_23 (by decide) (by omega) (by omega) (fun h => absurd h (by omega)) (fun _ => kk)) ?_
      refine r_go (fun kk => e_iload_n 0 dX0_choose_26 rfl kk) ?_
      refine r_go (fun kk => e_ic (nI 4) dX0_choose_27 (by decide) kk) ?_
      refine r_go (fun kk => e_icmp_geN 92 dX0_choose_28 (by decide) (by omega) (by omega) (fun h => absurd h (by omega)) (fun _ => kk)) ?_
      cases hp2 : pick K vf (rdP K lf') n with
      | none =>
        rw [hp2] at E
        dsimp only at E
        refine r_go (fun kk => e_aload_n 2 dX0_choose_31 rfl kk) ?_
        refine r_go (fun kk => e_lload_n 1 dX0_choose_32 rfl kk) ?_
        refine r_go (fun kk => e_callV (ci := 0) (st := []) (st1 := [.null]) (As := [.long y]) (E) dX0_choose_33 (by decide) cm_X0_foremostBehind lk_X0_164 im_X0_foremostBehind rfl sel_X0_foremostBehind (hI.T 0 (by decide)) rfl rfl (Nat.le_of_ble_eq_true rfl) rfl kk) ?_
        refine r_go (fun kk => e_astoreN (lv' := [(4, .null), (3, .int (nI p)), (1, .long y), (0, .ref (Y1.1 0))]) dX0_choose_36 (by decide) rfl kk) ?_
        refine r_go (fun kk => e_aloadN 0 dX0_choose_38 rfl kk) ?_
        refine r_go (fun kk => e_ifnullN 86 dX0_choose_40 (by decide) kk) ?_
        refine r_go (fun kk => e_iinc1N (lv' := [(3, .int (nI (p + 1))), (4, .null), (1, .long y), (0, .ref (Y1.1 0))]) 1 dX0_choose_86 rfl (by decide) rfl kk) ?_
        refine r_go (fun kk => e_goto 18 dX0_choose_89 (by decide) kk) ?_
        have e : chF K vf lf' p = (K, lf') := by
          unfold chF
          rw [hWK.nt, hp2]
          dsimp only
          rw [upd_self ((hq p (by omega)).resolve_right (fun z => absurd z.1 (Nat.lt_irrefl _)))]
        refine r_go (fun kk => e_sub [0, 2, 3] rfl kk) ?_
        exact ih (p + 1) M Y1 K lf' y (by omega) hI hS hL (hsp.trans e) hE hy
      | some b =>
        rw [hp2] at E
        dsimp only at E
        obtain ⟨hb, hbP⟩ := pick_lt hp2
        have hb2 := (hPr b hb).mp hbP
        have hch : chF K vf lf' p = (upd (ptF (upd K (7 + p) (nI b)) (5 * c) (upd K (7 + p) (nI b) 0) (nI p) (nI b) (cls (upd K (7 + p) (nI b)) (stnd K vf b)) (key (upd K (7 + p) (nI b)) vf (stnd K vf b)).toInt32) 3 (nI (c + 1)), upd lf' b (nI 1)) := by
          unfold chF
          rw [hWK.nt, hp2]
          dsimp only
          rw [hK3, nI_clamp (show c < 2 ^ 31 by omega)]
        have hs3 := (stnd_min hWK hRK hb).1
        have hE1 : ∀ i, RT i → upd K (7 + p) (nI b) i = K i := fun i hi => upd_ne _ _ (by unfold RT at hi; omega)
        have hcl : clX (rkA K vf (stnd K vf b)) = cls (upd K (7 + p) (nI b)) (stnd K vf b) := by
          rw [← rk_cg (vf := vf) hn2 hE1 hs3]
          exact (rh_cg hn2 hE1 hRK).cl hn2 hs3
        have hke : keX (rkA K vf (stnd K vf b)) = key (upd K (7 + p) (nI b)) vf (stnd K vf b) := by
          rw [← rk_cg (vf := vf) hn2 hE1 hs3]
          exact (rh_cg hn2 hE1 hRK).ke hn2 hs3
        obtain ⟨pt0, pt1, pt2, pt3, pt4, pt5⟩ := ptF_ρ (ρ := ρ) (upd K (7 + p) (nI b)) c (upd K (7 + p) (nI b) 0) (nI p) (nI b) (cls (upd K (7 + p) (nI b)) (stnd K vf b)) (key (upd K (7 + p) (nI b)) vf (stnd K vf b)).toInt32 (by omega) hρ2
        have ptl : ∀ j, j < 62000 → ptF (upd K (7 + p) (nI b)) (5 * c) (upd K (7 + p) (nI b) 0) (nI p) (nI b) (cls (upd K (7 + p) (nI b)) (stnd K vf b)) (key (upd K (7 + p) (nI b)) vf (stnd K vf b)).toInt32 j = upd K (7 + p) (nI b) j := fun j hj => ptF_at _ _ _ _ _ _ _ hj
        generalize ptF (upd K (7 + p) (nI b)) (5 * c) (upd K (7 + p) (nI b) 0) (nI p) (nI b) (cls (upd K (7 + p) (nI b)) (stnd K vf b)) (key (upd K (7 + p) (nI b)) vf (stnd K vf b)).toInt32 = W at hch pt0 pt1 pt2 pt3 pt4 pt5 ptl
        refine r_go (fun kk => e_aload_n 2 dX0_choose_31 rfl kk) ?_
        refine r_go (fun kk => e_lload_n 1 dX0_choose_32 rfl kk) ?_
        refine r_go (fun kk => e_callV (ci := 0) (st := []) (st1 := [.ref (Y1.1 (9 + b))]) (As := [.long y]) (E) dX0_choose_33 (by decide) cm_X0_foremostBehind lk_X0_164 im_X0_foremostBehind rfl sel_X0_foremostBehind (hI.T 0 (by decide)) rfl rfl (Nat.le_of_ble_eq_true rfl) rfl kk) ?_
        refine r_go (fun kk => e_astore (lv' := [(4, .ref (Y1.1 (9 + b))), (3, .int (nI p)), (1, .long y), (0, .ref (Y1.1 0))]) dX0_choose_36 (by decide) rfl kk) ?_
        refine r_go (fun kk => e_aload 0 dX0_choose_38 rfl kk) ?_
        refine r_go (fun kk => e_ifnull dX0_choose_40 kk) ?_
        refine r_go (fun kk => e_aload 0 dX0_choose_43 rfl kk) ?_
        refine r_go (fun kk => e_getLv (rkA K vf (stnd K vf b)) dX0_choose_45 fl_X0_168 rfl (hI.Tt (by omega)) (hLK b (by omega)) kk) ?_
        refine r_go (fun kk => e_lstore_n (lv' := [(1, .long (rkA K vf (stnd K vf b))), (4, .ref (Y1.1 (9 + b))), (3, .int (nI p)), (0, .ref (Y1.1 0))]) dX0_choose_48 (by decide) rfl kk) ?_
        refine r_go (fun kk => e_aload_n 3 dX0_choose_49 rfl kk) ?_
        refine r_go (fun kk => e_getP (some (Y1.1 6)) dX0_choose_50 fl_X0_34 rfl (hI.T 0 (by decide)) (hI.1.2.2.1.2.2.2.2.1) kk) ?_
        refine r_go (fun kk => e_iload_n 2 dX0_choose_53 rfl kk) ?_
        refine r_go (fun kk => e_aload 1 dX0_choose_54 rfl kk) ?_
        refine r_go (fun kk => e_getIv (nI b) dX0_choose_56 fl_X0_108 rfl (hI.Tt (by omega)) (hI.gno (by omega)) kk) ?_
        refine r_go (fun kk => e_iastN _ dX0_choose_59 (hI.T 6 (by decide)) (by rw [hI.1.2.1.2.2.2.1]; omega) (by rw [hI.1.2.1.2.2.2.1]; decide) rfl kk) ?_
        refine r_gen (fun mm => KQ Z mm Y1 ρ (upd K (7 + p) (nI b)) vf n ∧ ∀ t, t < n → gL mm 98 (Y1.1 (9 + t)) = rkA kf vf (stnd kf vf t)) ⟨hI.ch hρ (by omega), hL⟩ (fun M2 hI2 => ?_)
        refine r_go (fun kk => e_aload_n 3 dX0_choose_60 rfl kk) ?_
        refine r_go (fun kk => e_getP (some (Y1.1 3)) dX0_choose_61 fl_X0_26 rfl (hI2.1.T 0 (by decide)) (hI2.1.1.2.2.1.2.2.1) kk) ?_
        refine r_go (fun kk => e_aload_n 3 dX0_choose_64 rfl kk) ?_
        refine r_go (fun kk => e_getIv ((upd K (7 + p) (nI b)) 0) dX0_choose_65 fl_X0_47 rfl (hI2.1.T 0 (by decide)) hI2.1.2.1.1.1 kk) ?_
        refine r_go (fun kk => e_iload_n 2 dX0_choose_68 rfl kk) ?_
        refine r_go (fun kk => e_aload 1 dX0_choose_69 rfl kk) ?_
        refine r_go (fun kk => e_getIv (nI b) dX0_choose_71 fl_X0_108 rfl (hI2.1.Tt (by omega)) (hI2.1.gno (by omega)) kk) ?_
        refine r_go (fun kk => e_lload_n 0 dX0_choose_74 rfl kk) ?_
        refine r_go (fun kk => e_callS (st := [.int (nI b), .int (nI p), .int ((upd K (7 + p) (nI b)) 0), .ref (Y1.1 3)]) (st1 := [.int (clX (rkA K vf (stnd K vf b))), .int (nI b), .int (nI p), .int ((upd K (7 + p) (nI b)) 0), .ref (Y1.1 3)]) (As := [.long (rkA K vf (stnd K vf b))]) (k_classOf (rkA K vf (stnd K vf b))) dX0_choose_75 (by decide) cm_X5_classOf lk_X0_171 sm_X5_classOf rfl rfl (Nat.le_of_ble_eq_true rfl) rfl kk) ?_
        refine r_go (fun kk => e_lload_n 0 dX0_choose_78 rfl kk) ?_
        refine r_go (fun kk => e_callS (st := [.int (clX (rkA K vf (stnd K vf b))), .int (nI b), .int (nI p), .int ((upd K (7 + p) (nI b)) 0), .ref (Y1.1 3)]) (st1 := [.long (keX (rkA K vf (stnd K vf b))), .int (clX (rkA K vf (stnd K vf b))), .int (nI b), .int (nI p), .int ((upd K (7 + p) (nI b)) 0), .ref (Y1.1 3)]) (As := [.long (rkA K vf (stnd K vf b))]) (k_keyOf (rkA K vf (stnd K vf b))) dX0_choose_79 (by decide) cm_X5_keyOf lk_X0_175 sm_X5_keyOf rfl rfl (Nat.le_of_ble_eq_true rfl) rfl kk) ?_
        refine r_go (fun kk => e_l2i dX0_choose_82 kk) ?_
        obtain ⟨_, M3, ⟨rfl, Y2, hS2, hI3, hL3⟩, E0x83⟩ := k_add (G := G) hI2.1 hρ (c := c) (by rw [upd_ne _ _ (by omega)]; exact hK3) (by omega) (k' := upd W 3 (nI (c + 1))) ((upd K (7 + p) (nI b)) 0) (nI p) (nI b) (clX (rkA K vf (stnd K vf b))) ((keX (rkA K vf (stnd K vf b))).toInt32) (fun j h1 h2 => by rw [upd_ne _ _ h2]; exact ptl j h1) (upd_eq _ _ _) (fun i hi => by rw [upd_ne _ _ (by omega)]; exact pt5 i hi) (by rw [upd_ne _ _ (by omega)]; exact pt0) (by rw [upd_ne _ _ (by omega)]; exact pt1) (by rw [upd_ne _ _ (by omega)]; exact pt2) (by rw [upd_ne _ _ (by omega), hcl]; exact pt3) (by rw [upd_ne _ _ (by omega), hke]; exact pt4)
        refine r_go (fun kk => e_callV (ci := 3) (st := []) (st1 := []) (As := [.int ((upd K (7 + p) (nI b)) 0), .int (nI p), .int (nI b), .int (clX (rkA K vf (stnd K vf b))), .int ((keX (rkA K vf (stnd K vf b))).toInt32)]) (E0x83) dX0_choose_83 (by decide) cm_X3_add lk_X0_179 im_X3_add rfl sel_X3_add (hI2.1.T 3 (by decide)) rfl rfl (Nat.le_of_ble_eq_true rfl) rfl kk) ?_
        refine r_go (fun kk => e_iinc1N (lv' := [(3, .int (nI (p + 1))), (1, .long (rkA K vf (stnd K vf b))), (4, .ref (Y1.1 (9 + b))), (0, .ref (Y1.1 0))]) 2 dX0_choose_86 rfl (by decide) rfl kk) ?_
        refine r_go (fun kk => e_goto 18 dX0_choose_89 (by decide) kk) ?_
        refine r_go (fun kk => e_sub [0, 1, 3] rfl kk) ?_
        refine r_go (fun kk => e_lvs (lv' := [(3, .int (nI (p + 1))), (1, .long (rkA K vf (stnd K vf b))), (0, .ref (Y2.1 0))]) (by rw [hS2 0 (by omega)]; rfl) kk) ?_
        exact ih (p + 1) M3 Y2 (upd W 3 (nI (c + 1))) (upd lf' b (nI 1)) (rkA K vf (stnd K vf b)) (by omega) hI3 (hS.tr hS2) (fun t ht => by rw [hL3 t (by omega)]; exact hI2.2 t ht) (hsp.trans hch) (fun i hi => by
          have hi2 : i < 62000 ∧ i ≠ 3 ∧ i ≠ 7 + p := by unfold RT at hi; omega
          rw [upd_ne _ _ hi2.2.1, ptl i hi2.1, upd_ne _ _ hi2.2.2]
          exact hE i hi) (fun u hu h6 => by
          rw [hrk b hb]
          rw [hrk b hb] at hb2
          by_cases eu : u = b
          · subst eu
            rw [upd_eq]
            exact ⟨fun z => absurd z (by decide), fun z => absurd z Int64.lt_irrefl⟩
          · rw [upd_ne _ _ eu]
            constructor
            · intro z
              have h1 := pick_min hWK hRK n (Nat.le_refl _) b hp2 u hu ((hPr u hu).mpr ⟨by rw [g6 u hu]; exact h6, by rw [hrk u hu]; exact (hy u hu h6).mp z⟩)
              rw [hrk b hb, hrk u hu] at h1
              refine Int64.not_le.mp (fun h2 => eu ?_)
              exact st_inj hW hR hu hb h6 (by rw [← g6 b hb]; exact hb2.1) (Int64.le_antisymm h2 h1)
            · intro z
              exact (hy u hu h6).mpr (Int64.lt_trans hb2.2 z))
  refine r_go (fun kk => e_lvs (lv' := [(0, .ref (Y.1 0))]) rfl kk) ?_
  refine r_go (fun kk => e_aload_n 0 dX0_choose_0 rfl kk) ?_
  obtain ⟨_, m1, ⟨rfl, hq1, hσ⟩, E1x1⟩ := k_settle (G := G) hq hW hR
  refine r_go (fun kk => e_callV (ci := 0) (st := []) (st1 := []) (As := []) (E1x1) dX0_choose_1 (by decide) cm_X0_settle lk_X0_159 im_X0_settle rfl sel_X0_settle (hq.T 0 (by decide)) rfl rfl (Nat.le_of_ble_eq_true rfl) rfl kk) ?_
  refine r_go (fun kk => e_aload_n 0 dX0_choose_4 rfl kk) ?_
  refine r_go (fun kk => e_getP (some (Y.1 6)) dX0_choose_5 fl_X0_34 rfl (hq1.T 0 (by decide)) (hq1.1.2.2.1.2.2.2.2.1) kk) ?_
  refine r_go (fun kk => e_ic ((-1)) dX0_choose_8 (by decide) kk) ?_
  refine r_go (fun kk => e_callS (st := []) (st1 := []) (As := [.ref (Y.1 6), .int (-1)]) (a_fillI (G := G) (x := -1) (hq1.T 6 (by decide)) (by rw [hq1.1.2.1.2.2.2.1]; decide)) dX0_choose_9 (by decide) cm_J7_fill_53178 lk_X0_63 sm_J7_fill_53178 rfl rfl (Nat.le_of_ble_eq_true rfl) rfl kk) ?_
  rw [hq1.1.2.1.2.2.2.1]
  refine r_gen (fun mm => KQ Z mm Y ρ (c4 kf) vf n ∧ ∀ t, t < n → gL mm 98 (Y.1 (9 + t)) = rkA kf vf (stnd kf vf t)) ⟨hq1.c4 hρ, fun t ht => by rw [fl_L]; exact hσ t ht⟩ (fun M9 hI9 => ?_)
  refine r_go (fun kk => e_ldc2 dX0_choose_12 cs_X0_162 kk) ?_
  refine r_go (fun kk => e_lstore_n (lv' := [(1, .long (-1)), (0, .ref (Y.1 0))]) dX0_choose_15 (by decide) rfl kk) ?_
  refine r_go (fun kk => e_ic (nI 0) dX0_choose_16 (by decide) kk) ?_
  refine r_go (fun kk => e_istore_n (lv' := [(3, .int (nI 0)), (1, .long (-1)), (0, .ref (Y.1 0))]) dX0_choose_17 (by decide) rfl kk) ?_
  refine r_go (fun kk => e_sub [0, 1, 2] rfl kk) ?_
  refine L P 0 M9 Y (c4 kf) (lt0 lf) (-1) (by omega) hI9.1 (Sm.rf Y) hI9.2 rfl (fun i hi => c4_at _ (by unfold RT at hi; omega)) (fun u hu h6 => ⟨fun _ => ?_, fun _ => lt0_z lf u 200 (by omega)⟩)
  have hs := (stnd_min hW hR hu).1
  obtain ⟨e1, e2⟩ := hR.rk hn2 hs
  rw [e1]
  have e3 := lN_ti (show rkN kf vf (stnd kf vf u) < 2 ^ 63 by omega)
  rw [Int64.lt_iff_toInt_lt, e3]
  have e4 : (-1 : Int64).toInt = -1 := rfl
  omega

end Class16
