/-! states between calls: well formed, and what each noted call does to them -/
/-- a state between calls; s notes -/
def SN (k : KF) (v : VF) (n s : Nat) : Prop := WF k n ∧ ∃ z, k 0 = nI z ∧ z ≤ 1000 * s ∧ WG k v z (8000 * z)
theorem WG.cg2 {kf k' : KF} {vf v' : VF} {c B n : Nat} (hw : WF kf n) (h : WG kf vf c B) (e : ∀ i, RG i → k' i = kf i) (ev : ∀ t, t < n → v' t = vf t) : WG k' v' c B := by
  have h' := h.cg hw e
  have nt : nT k' = n := by unfold nT; rw [e 1 (by unfold RG; omega)]; exact hw.nt
  obtain ⟨h1, h2⟩ := h'
  exact ⟨fun t ht => (h1 t ht).cg (fun _ _ => rfl) (fun _ _ => rfl) (ev t (by omega)), h2⟩
/-- programs change -/
theorem wf_prog {k k2 : KF} {n : Nat} (h : WF k n) (e : ∀ j, ¬ (340 ≤ j ∧ j < 372) → ¬ (30000 ≤ j ∧ j < 62000) → k2 j = k j) (hL : LN k2) (hB : BY k2) : WF k2 n := by
  obtain ⟨⟨h1, h2⟩, hC, hV, ⟨ρ, hA⟩, hT, -, -, hR, hP⟩ := h
  have g : ∀ j w, j < 200 → w < 20 → kg k2 j w = kg k j w := fun j w hj hw => e _ (by omega) (by omega)
  refine ⟨⟨by rw [e 1 (by omega) (by omega)]; exact h1, h2⟩, fun j hj q => ?_, fun l hl => ?_, ⟨ρ, fun j i l hj hi hl q1 q2 q3 => ?_⟩, fun j hj => ?_, hL, hB, ?_, ?_⟩
  · rw [g j 6 (by omega) (by omega)] at q
    obtain ⟨l, hl, e7, i, hi, e8⟩ := hC j hj q
    exact ⟨l, hl, by rw [g j 7 (by omega) (by omega)]; exact e7, i, hi, by rw [e _ (by omega) (by omega)]; exact e8⟩
  · rw [e _ (by omega) (by omega)]
    exact hV l hl
  · rw [g j 6 (by omega) (by omega)] at q1
    rw [g j 7 (by omega) (by omega)] at q2
    rw [e _ (by omega) (by omega)] at q3
    exact hA j i l hj hi hl q1 q2 q3
  · unfold TK
    rw [g j 1 (by omega) (by omega), g j 2 (by omega) (by omega), g j 5 (by omega) (by omega), g j 14 (by omega) (by omega)]
    exact hT j hj
  · rw [e 3 (by omega) (by omega)]
    exact hR
  · rw [e 2 (by omega) (by omega)]
    exact hP
theorem byt_le (x : Int64) (i : Nat) : byt x i ≤ nI 127 := by
  unfold byt
  generalize (x >>> ((nI (56 - 8 * i)).toInt64 &&& 63)).toInt32.toInt8 = y
  rw [Int32.le_iff_toInt_le, Int8.toInt_toInt32]
  exact Int8.toInt_le y
/-- the number of processors -/
theorem wf_2 {kf : KF} {n p : Nat} (h : WF kf n) (hp1 : 1 ≤ p) (hp : p ≤ 4) : WF (upd kf 2 (nI p)) n := by
  obtain ⟨⟨h1, h2⟩, hC, hV, ⟨ρ, hA⟩, hT, hL, hB, hR, hP⟩ := h
  have e : ∀ i, i ≠ 2 → upd kf 2 (nI p) i = kf i := fun i hi => upd_ne _ _ hi
  have g : ∀ j w, kg (upd kf 2 (nI p)) j w = kg kf j w := fun j w => e _ (by omega)
  refine ⟨⟨by rw [e 1 (by omega)]; exact h1, h2⟩, fun j hj q => ?_, fun l hl => ?_, ⟨ρ, fun j i l hj hi hl q1 q2 q3 => ?_⟩, fun j hj => ?_, fun p hp => ?_, fun i hi => ?_, ?_, ⟨p, hp1, hp, upd_eq _ _ _⟩⟩
  · rw [g] at q
    obtain ⟨l, hl, e7, i, hi, e8⟩ := hC j hj q
    exact ⟨l, hl, by rw [g]; exact e7, i, hi, by rw [e _ (by omega)]; exact e8⟩
  · rw [e _ (by omega)]
    exact hV l hl
  · rw [g] at q1 q2
    rw [e _ (by omega)] at q3
    exact hA j i l hj hi hl q1 q2 q3
  · unfold TK
    rw [g, g, g, g]
    exact hT j hj
  · rw [e _ (by omega)]
    exact hL p hp
  · rw [e _ (by omega)]
    exact hB i hi
  · rw [e _ (by omega)]
    exact hR
section SNs
variable {k : KF} {v : VF} {n s : Nat}
theorem SN.up (h : SN k v n s) {s' : Nat} (hs : s ≤ s') : SN k v n s' := by
  obtain ⟨h1, z, h2, h3, h4⟩ := h
  exact ⟨h1, z, h2, by omega, h4⟩
theorem SN.six (h : SN k v n s) (x : Int32) : SN (upd k 6 x) v n s := by
  obtain ⟨h1, z, h2, h3, h4⟩ := h
  exact ⟨wf_upd h1 (by unfold rel; omega), z, (upd_ne _ _ (by omega)).trans h2, h3, wg_up h1 h4 (by unfold RG; omega)⟩
theorem sn_prog (h : SN k v n s) {p b : Nat} (hp : p < 32) (hb : b ≤ 8) (e : Int64) (hs : plen k p + b ≤ 1000) : SN (upd (progB k p (plen k p) e b) (340 + p) (nI (plen k p + b))) v n s := by
  obtain ⟨h1, z, h2, h3, h4⟩ := h
  have ek : ∀ j, j ≠ 340 + p → ¬ (30000 + 1000 * p + plen k p ≤ j ∧ j < 30000 + 1000 * p + plen k p + b) → upd (progB k p (plen k p) e b) (340 + p) (nI (plen k p + b)) j = k j := fun j g1 g2 => (upd_ne _ _ g1).trans (pgB_at k p (plen k p) e b j g2)
  have hL := h1.2.2.2.2.2.1
  have hB := h1.2.2.2.2.2.2.1
  refine ⟨wf_prog h1 (fun j g1 g2 => ek j (by omega) (by omega)) (fun q hq => ?_) (fun i hi => ?_), z, (ek 0 (by omega) (by omega)).trans h2, h3, h4.cg h1 (fun i hi => ek i (by unfold RG at hi; omega) (by unfold RG at hi; omega))⟩
  · by_cases c : q = p
    · subst c
      exact Or.inr ⟨_, hs, upd_eq _ _ _⟩
    · rw [ek _ (by omega) (by omega)]
      exact hL q hq
  · by_cases c : 30000 + 1000 * p + plen k p ≤ 30000 + i ∧ 30000 + i < 30000 + 1000 * p + plen k p + b
    · obtain ⟨j, hj, ej⟩ : ∃ j, j < b ∧ 30000 + i = 30000 + 1000 * p + plen k p + j := ⟨30000 + i - (30000 + 1000 * p + plen k p), by omega, by omega⟩
      rw [upd_ne _ _ (by omega), ej, pgB_in k p (plen k p) e b j hj]
      exact byt_le e j
    · rw [ek _ (by omega) c]
      exact hB i hi
theorem sn_task (h : SN k v n s) (hn : n < 200) {a b c : Int32} (hb : ∃ k, k < 32 ∧ b = nI k) (hc : ∃ s, 1 ≤ s ∧ s ≤ 1000 ∧ c = nI s) : SN (adK k n a b c (nI 100) (nI 0)) (vp_updL v n (lvF k v n).2) (n + 1) s := by
  obtain ⟨h1, z, h2, h3, h4⟩ := h
  refine ⟨wf_ad h1 hn hb hc, z, (adK_at _ _ _ _ _ _ _ _ (by omega) (by omega)).trans h2, h3, wg_ad h1 h4 hn hc ⟨100, by omega, by omega, rfl⟩ (fun _ => rfl) ?_⟩
  exact lv_b (WG.vb h1 h4)
theorem sn_share (h : SN k v n s) {t x : Nat} (ht : t < n) (h1 : 1 ≤ x) (hx : x ≤ 1000) : SN (shrK k t (nI x)) v n s := by
  obtain ⟨hw, z, h2, h3, h4⟩ := h
  have hn := hw.1.2
  have w1 : WF (ks k t 2 (nI x)) n := by
    refine wf_tk hw ht (Or.inl rfl) (fun i hi => ks_at _ _ _ _ _ hi) ?_
    obtain ⟨t1, t2, t3, t4⟩ := hw.2.2.2.2.1 t ht
    refine ⟨?_, ⟨x, h1, hx, kg_eq _ _ _ _⟩, ?_, ?_⟩
    · rw [kg_ne _ _ _ _ _ _ (by decide) (by decide) (by decide)]
      exact t1
    · rw [kg_ne _ _ _ _ _ _ (by decide) (by decide) (by decide)]
      exact t3
    · rw [kg_ne _ _ _ _ _ _ (by decide) (by decide) (by decide)]
      exact t4
  have e : ∀ i, ¬ (400 + 20 * t ≤ i ∧ i < 400 + 20 * t + 20) → shrK k t (nI x) i = k i := fun i hi => (ks_at _ _ _ _ _ (by omega)).trans (ks_at _ _ _ _ _ (by omega))
  refine ⟨wf_ks w1 (by omega) (by omega), z, (e 0 (by omega)).trans h2, h3, wg_f hw h4 ht e ?_⟩
  obtain ⟨q1, q2, ⟨r, s0, r1, r2, r3, r4⟩, q4, q5, q6, q7⟩ := h4.at hw ht
  have g : ∀ w, w < 20 → w ≠ 2 → w ≠ 3 → kg (shrK k t (nI x)) t w = kg k t w := fun w hw a b => (kg_ne _ _ _ _ _ _ (by decide) hw b).trans (kg_ne _ _ _ _ _ _ (by decide) hw a)
  have g2 : kg (shrK k t (nI x)) t 2 = nI x := (kg_ne _ _ _ _ _ _ (by decide) (by decide) (by decide)).trans (kg_eq _ _ _ _)
  have g3 : kg (shrK k t (nI x)) t 3 = nI (min r (x - 1)) := by
    unfold shrK
    rw [kg_eq, kg_ne _ _ _ _ _ _ (by decide) (by decide) (by decide), r1, pk_sub h1, mn_n (by omega) (by omega)]
  unfold TG gH mny
  rw [g 6 (by decide) (by decide) (by decide), g 7 (by decide) (by decide) (by decide), g 8 (by decide) (by decide) (by decide), g 4 (by decide) (by decide) (by decide), g 10 (by decide) (by decide) (by decide), g 0 (by decide) (by decide) (by decide), g 11 (by decide) (by decide) (by decide), g 12 (by decide) (by decide) (by decide), g 13 (by decide) (by decide) (by decide), g 14 (by decide) (by decide) (by decide), g2, g3]
  refine ⟨q1, q2, ⟨_, _, rfl, rfl, by omega, hx⟩, q4, q5, q6, fun i hi => ?_⟩
  have hmy : (kg k t 14).toNatClampNeg ≤ 127 := mny_le hw.hm ht
  rw [e _ (by omega)]
  exact q7 i hi
theorem sn_dead (h : SN k v n s) (hs : s ≤ 1000) {t p : Nat} {b c : Int32} (ht : t < n) (hd : isDue k t = true) (h1 : 1 ≤ p) (hp : p ≤ 1000) (hc : k 0 = c) : SN (spK k t (nI p) b c) v n s := by
  obtain ⟨hw, z, h2, h3, h4⟩ := h
  have hn := hw.1.2
  have e : ∀ i, ¬ (400 + 20 * t ≤ i ∧ i < 400 + 20 * t + 20) → spK k t (nI p) b c i = k i := fun i hi => (ks_at _ _ _ _ _ (by omega)).trans ((ks_at _ _ _ _ _ (by omega)).trans ((ks_at _ _ _ _ _ (by omega)).trans (ks_at _ _ _ _ _ (by omega))))
  refine ⟨wf_ks (wf_ks (wf_ks (wf_ks hw (by omega) (by omega)) (by omega) (by omega)) (by omega) (by omega)) (by omega) (by omega), z, (e 0 (by omega)).trans h2, h3, wg_f hw h4 ht e ?_⟩
  obtain ⟨q1, q2, q3, q4, q5, q6, q7⟩ := h4.at hw ht
  have K : ∀ (f : KF) (w w' : Nat) (x : Int32), w < 20 → w' < 20 → w' ≠ w → kg (ks f t w x) t w' = kg f t w' := fun f w w' x a b c => kg_ne _ _ _ _ _ _ a b c
  have g : ∀ w, w < 20 → w ≠ 10 → w ≠ 11 → w ≠ 12 → w ≠ 13 → kg (spK k t (nI p) b c) t w = kg k t w := fun w hw a1 a2 a3 a4 => (K _ 13 w _ (by decide) hw a4).trans ((K _ 12 w _ (by decide) hw a3).trans ((K _ 11 w _ (by decide) hw a2).trans (K _ 10 w _ (by decide) hw a1)))
  have g10 : kg (spK k t (nI p) b c) t 10 = nI p := (K _ 13 10 _ (by decide) (by decide) (by decide)).trans ((K _ 12 10 _ (by decide) (by decide) (by decide)).trans ((K _ 11 10 _ (by decide) (by decide) (by decide)).trans (kg_eq _ _ _ _)))
  have g12 : kg (spK k t (nI p) b c) t 12 = nI (z + p) := by
    rw [show kg (spK k t (nI p) b c) t 12 = c + nI p from (K _ 13 12 _ (by decide) (by decide) (by decide)).trans (kg_eq _ _ _ _), ← hc, h2, nI_add]
  have hd2 := due_iff.mp hd
  unfold TG gH mny
  rw [g 6 (by decide) (by decide) (by decide) (by decide) (by decide), g 7 (by decide) (by decide) (by decide) (by decide) (by decide), g 8 (by decide) (by decide) (by decide) (by decide) (by decide), g 4 (by decide) (by decide) (by decide) (by decide) (by decide), g 2 (by decide) (by decide) (by decide) (by decide) (by decide), g 3 (by decide) (by decide) (by decide) (by decide) (by decide), g 0 (by decide) (by decide) (by decide) (by decide) (by decide), g 14 (by decide) (by decide) (by decide) (by decide) (by decide), g10, g12]
  refine ⟨q1, q2, q3, ⟨p, h1, hp, rfl⟩, ⟨fun y => absurd hd2 y, z + p, rfl, by omega, fun _ _ => by omega⟩, q6, fun i hi => ?_⟩
  have hmy : (kg k t 14).toNatClampNeg ≤ 127 := mny_le hw.hm ht
  rw [e _ (by omega)]
  exact q7 i hi
theorem sn_proc (h : SN k v n s) {p : Nat} (h1 : 1 ≤ p) (hp : p ≤ 4) : SN (upd k 2 (nI p)) v n s := by
  obtain ⟨hw, z, h2, h3, h4⟩ := h
  exact ⟨wf_2 hw h1 hp, z, (upd_ne _ _ (by omega)).trans h2, h3, wg_up hw h4 (by unfold RG; omega)⟩
theorem sn_lock (h : SN k v n s) {l : Nat} (hl : l < 100) (hx : k (240 + l) = -2) : SN (upd k (240 + l) (-1)) v n s := by
  obtain ⟨hw, z, h2, h3, h4⟩ := h
  exact ⟨wf_hold hw hl (Or.inl (by decide)) (noW hw hl (by rw [hx]; decide)), z, (upd_ne _ _ (by omega)).trans h2, h3, wg_ho hw h4 hl (Or.inl rfl)⟩
theorem rg_low {b : Int32} {k : KF} {j : Nat} (hj : j < 16) : ∀ i, (lp (rgS b) i (k, 0)).1 j = k j := by
  intro i
  induction i with
  | zero => rfl
  | succ i ih =>
    rw [← ih]
    show (rgS b i (lp (rgS b) i (k, 0))).1 j = _
    unfold rgS
    split
    · exact rdy_at _ _ _ (by omega) (by omega) (by omega)
    · rfl
theorem sn_ring (h : SN k v n s) (b : Int32) : SN (rgF k b).1 v n s := by
  obtain ⟨hw, z, h2, h3, h4⟩ := h
  have hnt := hw.nt
  unfold rgF
  rw [hnt]
  exact ⟨wf_rg hw n (Nat.le_refl _), z, (rg_low (by omega) n).trans h2, h3, wg_rg hw h4 n (Nat.le_refl _)⟩
end SNs
theorem tu_6 {k0 : KF} {lf : Nat → Int32} {n c P : Nat} {vf : VF} (hC : CI n c P 4 (k0, lf)) : ∀ i, i ≤ 4 → (lp tuS i (k0, vf)).1 6 = k0 6 := by
  intro i
  induction i with
  | zero => intro _; rfl
  | succ i ih =>
    intro hi
    have h := UI.all (vf := vf) hC i (by omega)
    rw [← ih (by omega)]
    show (tuS i (lp tuS i (k0, vf))).1 6 = _
    generalize lp tuS i (k0, vf) = s at h ⊢
    obtain ⟨⟨n', hn', hW⟩, h2, h3, h0, hq⟩ := h
    obtain ⟨hW0, -, -, hq0⟩ := hC
    dsimp only at hq0 hW0
    have hn2 := hW.1.2
    unfold tuS
    rw [(hq i (by omega)).1]
    split
    · rfl
    · rename_i hneg
      rcases hq0 i (by omega) with z | ⟨-, b, hb, z2, z3, z4, z5⟩
      · exact absurd (by rw [z]; decide) hneg
      · rw [z2, nI_clamp (show b < 2 ^ 31 by omega)]
        have hb6 := (hq i (by omega)).2 (Nat.le_refl _) b hb z2
        obtain ⟨⟨p1, p2⟩, n2, hn2', w2⟩ := pw_tn (vf := s.2) hW (show b < n' by omega) hb6
        exact p1 6 (by unfold SL; omega)
theorem tc_6 {kf : KF} {vf : VF} {lf : Nat → Int32} {n c : Nat} (h : WF kf n) (hr : kf 3 = nI c) (hc : c + 4 ≤ 8000) : (tcF kf vf lf).1 6 = kf 6 := by
  obtain ⟨P, hP1, hP4, hP⟩ := h.2.2.2.2.2.2.2.2
  have hC0 := tc_ci (lf := lf) h hP hr
  have hCI : CI n c P 4 ((tc1 kf vf lf).1, (tc1 kf vf lf).2) := by
    show CI n c P 4 (tc1 kf vf lf)
    rw [tc1, hP, nI_clamp (show P < 2 ^ 31 by omega)]
    exact (hC0.all (by omega) P hP4).up hP4
  show upd (tc2 kf vf lf).1 0 ((tc2 kf vf lf).1 0 + nI 1) 6 = _
  rw [upd_ne _ _ (by omega), tc2, hP, nI_clamp (show P < 2 ^ 31 by omega), tu_6 hCI P hP4, tc1, hP, nI_clamp (show P < 2 ^ 31 by omega)]
  have q : ∀ i, i ≤ 4 → (lp (chS vf) i (c4 (wkF kf), lt0 lf)).1 6 = kf 6 := by
    intro i
    induction i with
    | zero =>
      intro _
      show c4 (wkF kf) 6 = _
      rw [c4_at _ (by omega), wkF_lo (by omega)]
    | succ i ih =>
      intro hi
      have := ih (by omega)
      show (chF (lp (chS vf) i (c4 (wkF kf), lt0 lf)).1 vf (lp (chS vf) i (c4 (wkF kf), lt0 lf)).2 i).1 6 = _
      generalize lp (chS vf) i (c4 (wkF kf), lt0 lf) = s at this ⊢
      unfold chF
      split
      · dsimp only
        rw [upd_ne _ _ (by omega)]
        exact this
      · dsimp only
        rw [upd_ne _ _ (by omega), ptF_at _ _ _ _ _ _ _ (by omega), upd_ne _ _ (by omega)]
        exact this
  exact q P hP4
/-- up to f ticks -/
theorem sn_rn : ∀ (f : Nat) (k : KF) (v : VF) (lf : Nat → Int32) (d n z : Nat), WF k n → WG k v z (8000 * z) → k 0 = nI z → z + f < 2 ^ 30 → (rnL f (k, v, lf) d).1.1 6 = k 6 ∧ ∃ n' z', z' ≤ z + f ∧ WF (rnL f (k, v, lf) d).1.1 n' ∧ (rnL f (k, v, lf) d).1.1 0 = nI z' ∧ WG (rnL f (k, v, lf) d).1.1 (rnL f (k, v, lf) d).1.2.1 z' (8000 * z') := by
  intro f
  induction f with
  | zero =>
    intro k v lf d n z hw hg h0 hz
    exact ⟨rfl, n, z, by omega, hw, h0, hg⟩
  | succ f ih =>
    intro k v lf d n z hw hg h0 hz
    obtain ⟨c, hc, h3⟩ := hw.2.2.2.2.2.2.2.1
    by_cases q : (k 3).toNatClampNeg + 4 ≤ 8000
    · have q' : c + 4 ≤ 8000 := by rw [h3, nI_clamp (by omega)] at q; exact q
      rw [rn_t (s := (k, v, lf)) q]
      obtain ⟨n1, -, w1⟩ := wf_tc (vf := v) (lf := lf) hw h3 q'
      obtain ⟨g1, c1⟩ := wg_tc (lf := lf) hw hg (by omega) h0 h3 q'
      have e6 := tc_6 (vf := v) (lf := lf) hw h3 q'
      rw [show 8000 * z + 8000 = 8000 * (z + 1) by omega] at g1
      obtain ⟨a6, n', z', b1, b2, b3, b4⟩ := ih (tcF k v lf).1 (tcF k v lf).2.1 (tcF k v lf).2.2 (d + 1) n1 (z + 1) w1 g1 c1 (by omega)
      exact ⟨a6.trans e6, n', z', by omega, b2, b3, b4⟩
    · rw [rn_f (s := (k, v, lf)) q]
      exact ⟨rfl, n, z, by omega, hw, h0, hg⟩
theorem sn_run {k : KF} {v : VF} {n s N : Nat} (h : SN k v n s) (hs : s ≤ 1000) (hN : N ≤ 1000) (lf : Nat → Int32) : (rnL N (k, v, lf) 0).1.1 6 = k 6 ∧ ∃ n', SN (rnL N (k, v, lf) 0).1.1 (rnL N (k, v, lf) 0).1.2.1 n' (s + 1) := by
  obtain ⟨hw, z, h2, h3, h4⟩ := h
  obtain ⟨a6, n', z', b1, b2, b3, b4⟩ := sn_rn N k v lf 0 n z hw h4 h2 (by omega)
  exact ⟨a6, n', b2, z', b3, by omega, b4⟩
