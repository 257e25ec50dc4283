/-! pays, turns, a tick keep the second well-formedness -/
theorem nI_div {a b : Nat} (ha : a < 2 ^ 31) (hb : b < 2 ^ 31) (h0 : 0 < b) : nI a / nI b = nI (a / b) := by
  have hd : a / b < 2 ^ 31 := Nat.lt_of_le_of_lt (Nat.div_le_self _ _) ha
  apply Int32.toInt_inj.mp
  rw [Int32.toInt_div, nI_toInt ha, nI_toInt hb, nI_toInt hd, Int.tdiv_eq_ediv_of_nonneg (by omega)]
  have e : ((a : Int) / (b : Int)) = ((a / b : Nat) : Int) := by simp
  rw [e]
  generalize a / b = q at hd
  exact Int.bmod_eq_of_le (by omega) (by omega)
theorem wg_edF {kf : KF} {vf : VF} {c B n t : Nat} {q : Int32} (hw : WF kf n) (h : WG kf vf c B) (ht : t < n) : WG (edF kf vf t q) vf c B := by
  unfold edF
  exact wg_edL hw h ht 100 (by omega)
/-- one payment -/
theorem py_n {kf : KF} {r s t : Nat} (hr : kg kf t 3 = nI r) (hs : kg kf t 2 = nI s) (h1 : r < s) (h2 : s ≤ 1000) : (nI 1000 + kg kf t 3) / kg kf t 2 = nI ((1000 + r) / s) ∧ (nI 1000 + kg kf t 3) - (nI 1000 + kg kf t 3) / kg kf t 2 * kg kf t 2 = nI ((1000 + r) % s) ∧ (1000 + r) / s ≤ 1000 := by
  have e1 : (nI 1000 + kg kf t 3) / kg kf t 2 = nI ((1000 + r) / s) := by rw [hr, hs, nI_add, nI_div (by omega) (by omega) (by omega)]
  have hle : (1000 + r) / s * s ≤ 1000 + r := Nat.div_mul_le_self _ _
  refine ⟨e1, ?_, ?_⟩
  · rw [e1, hr, hs, nI_add, pk_mul, pk_sub hle]
    congr 1
    have := Nat.div_add_mod (1000 + r) s
    rw [Nat.mul_comm] at this
    omega
  · have : (1000 + r) / s < 1001 := Nat.div_lt_of_lt_mul (by
      have : s * 1001 = s * 1000 + s := by omega
      have : 1000 ≤ s * 1000 := Nat.le_mul_of_pos_left _ (by omega)
      omega)
    omega
theorem wg_pay {kf : KF} {vf : VF} {c B n t : Nat} (hw : WF kf n) (h : WG kf vf c B) (ht : t < n) : WG (payK kf t) (payV kf vf t) c (B + 1000) := by
  have hn := hw.1.2
  obtain ⟨h1, h2, ⟨r, s, hr, hs, hrs, hs2⟩, h4, h5, ⟨x, hx, hxB⟩, h7⟩ := h.at hw ht
  obtain ⟨e1, e2, e3⟩ := py_n hr hs hrs hs2
  have hm := Nat.mod_lt (1000 + r) (show 0 < s by omega)
  unfold payK payV
  rw [e2, e1, nI_l (by omega), hx, lN_add]
  have g : ∀ v, v < 20 → v ≠ 3 → kg (bd (ks kf t 3 (nI ((1000 + r) % s))) 0) t v = kg kf t v := fun v hv q => by
    rw [kg_bd _ _ _ _ (by decide)]
    exact kg_ne _ _ _ _ _ _ (by omega) hv q
  have g3 : kg (bd (ks kf t 3 (nI ((1000 + r) % s))) 0) t 3 = nI ((1000 + r) % s) := by
    rw [kg_bd _ _ _ _ (by decide), kg_eq]
  have ge : ∀ i, i ≠ 220 → i ≠ 400 + 20 * t + 3 → bd (ks kf t 3 (nI ((1000 + r) % s))) 0 i = kf i := fun i q1 q2 => by
    rw [k_bd _ _ _ (by omega), ks_at _ _ _ _ _ q2]
  generalize bd (ks kf t 3 (nI ((1000 + r) % s))) 0 = k' at g g3 ge ⊢
  have m : mny k' t = mny kf t := by unfold mny; rw [g 14 (by decide) (by omega)]
  refine h.one hw (t := t) (fun i hi q _ => ge i (by unfold RG at hi; omega) (by omega)) (fun j q => by simp [vp_updL, q]) (by omega) (by omega) ?_
  unfold TG gH
  rw [g 6 (by decide) (by omega), g 7 (by decide) (by omega), g 8 (by decide) (by omega), g 4 (by decide) (by omega), g 2 (by decide) (by omega), g3, g 10 (by decide) (by omega), g 0 (by decide) (by omega), g 11 (by decide) (by omega), g 12 (by decide) (by omega), g 13 (by decide) (by omega), m]
  refine ⟨h1, h2, ⟨(1000 + r) % s, s, rfl, hs, hm, hs2⟩, h4, h5, ⟨x + (1000 + r) / s, by simp [vp_updL], by omega⟩, fun i hi => ?_⟩
  have := mny_le hw.hm ht
  rw [ge _ (by omega) (by omega)]
  exact h7 i hi
theorem WG.up {kf : KF} {vf : VF} {c B B' : Nat} (h : WG kf vf c B) (hB : B ≤ B') : WG kf vf c B' := by
  obtain ⟨h1, h2⟩ := h
  refine ⟨fun t ht => ?_, h2⟩
  obtain ⟨q1, q2, q3, q4, q5, ⟨x, q6, q8⟩, q7⟩ := h1 t ht
  exact ⟨q1, q2, q3, q4, q5, ⟨x, q6, by omega⟩, q7⟩
theorem wf_payK {kf : KF} {n t : Nat} (h : WF kf n) (ht : t < n) : WF (payK kf t) n := by
  have hn2 := h.1.2
  unfold payK
  exact wf_bd (wf_ks h (by decide) (by omega)) (by decide)
theorem wg_pays {kf : KF} {vf : VF} {c B n t : Nat} (hw : WF kf n) (h : WG kf vf c B) (ht : t < n) : WG (paysF kf vf t).1 (paysF kf vf t).2 c (B + 2000) := by
  have hn2 := hw.1.2
  unfold paysF
  try dsimp only
  have w1 : WF (bd kf (if isDue kf t then 7 else 6)) n := wf_bd hw (by split <;> decide)
  have a1 : WG (bd kf (if isDue kf t then 7 else 6)) vf c B := wg_bd hw h (by split <;> decide)
  have d1 : isDue (bd kf (if isDue kf t then 7 else 6)) t = isDue kf t := by
    unfold isDue
    rw [kg_bd _ _ _ _ (by split <;> decide)]
  generalize bd kf (if isDue kf t then 7 else 6) = k1 at w1 a1 d1 ⊢
  have w2 : WF (if (isDue kf t && decide (0 < kg k1 t 13)) = true then ks k1 t 13 (kg k1 t 13 - nI 1) else k1) n := by
    split
    · exact wf_ks w1 (by decide) (by omega)
    · exact w1
  have a2 : WG (if (isDue kf t && decide (0 < kg k1 t 13)) = true then ks k1 t 13 (kg k1 t 13 - nI 1) else k1) vf c B := by
    split
    · rename_i z
      rw [Bool.and_eq_true] at z
      exact wg_13 w1 a1 ht (d1.trans z.1)
    · exact a1
  generalize (if (isDue kf t && decide (0 < kg k1 t 13)) = true then ks k1 t 13 (kg k1 t 13 - nI 1) else k1) = k2 at w2 a2 ⊢
  split
  · exact a2.up (by omega)
  · have w3 : WF (if kg kf t 0 = 2 then bd k2 1 else k2) n := by
      split
      · exact wf_bd w2 (by decide)
      · exact w2
    have a3 : WG (if kg kf t 0 = 2 then bd k2 1 else k2) vf c B := by
      split
      · exact wg_bd w2 a2 (by decide)
      · exact a2
    generalize (if kg kf t 0 = 2 then bd k2 1 else k2) = k3 at w3 a3 ⊢
    have w4 : WF (if kg kf t 0 = 4 then bd k3 2 else k3) n := by
      split
      · exact wf_bd w3 (by decide)
      · exact w3
    have a4 : WG (if kg kf t 0 = 4 then bd k3 2 else k3) vf c B := by
      split
      · exact wg_bd w3 a3 (by decide)
      · exact a3
    generalize (if kg kf t 0 = 4 then bd k3 2 else k3) = k4 at w4 a4 ⊢
    have a5 := wg_pay w4 a4 ht
    split
    · exact (wg_pay (wf_payK w4 ht) a5 ht).up (by omega)
    · exact a5.up (by omega)
theorem wg_tnL {t c B : Nat} : ∀ (f : Nat) (kf : KF) (vf : VF) (n a : Nat), WF kf n → WG kf vf c B → t < n → kg kf t 6 = 0 → kg kf t 5 = nI a → a ≤ 1001 → WG (tnL f kf vf t).1 (tnL f kf vf t).2 c B := by
  intro f
  induction f with
  | zero => intro kf vf n a _ h _ _ _ _; exact h
  | succ f ih =>
    intro kf vf n a hw h ht h6 h5 ha
    by_cases c1 : 0 < kg kf t 4
    · rw [tn_w f c1]
      refine wg_4 hw h ht ?_
      obtain ⟨w, hw', e⟩ := nI_of (h.at hw ht).2.1
      rw [e] at c1 ⊢
      have : 0 < w := by
        have := Int32.lt_iff_toInt_lt.mp c1
        rw [nI_toInt hw'] at this
        have e0 : (0 : Int32).toInt = 0 := rfl
        omega
      rw [pk_sub (by omega)]
      exact nI_pos (by omega)
    · have g := wg_act hw h ht h6
      obtain ⟨⟨n', hn', hW⟩, e5, e6⟩ := lf_act (vf := vf) hw ht h6
      by_cases c2 : 0 < (actF kf vf t).1
      · rw [tn_p f c1 c2]
        dsimp only
        exact wg_edF hW g (Nat.lt_of_lt_of_le ht hn')
      · by_cases c3 : (actF kf vf t).1 = -2
        · rw [tn_e f c1 c2 c3]
          dsimp only
          exact wg_edF hW g (Nat.lt_of_lt_of_le ht hn')
        · by_cases c4 : (actF kf vf t).1 = -1
          · rw [tn_o f c1 c2 c3 c4]
            exact wg_ks hW g (by omega) (by omega)
          · rw [tn_n f c1 c2 c3 c4]
            obtain ⟨ha2, n2, hn2, hW2, h52⟩ := act_on hw ht h6 h5 ha c2 c3
            refine ih _ _ n2 (a + 2) hW2 (wg_ks hW g (by omega) (by omega)) (by omega) ?_ h52 ha2
            rw [kg_ne _ _ _ _ _ _ (by decide) (by decide) (by decide), e6 c4]
            exact h6
theorem wg_tn {kf : KF} {vf : VF} {c B n t : Nat} (hw : WF kf n) (h : WG kf vf c B) (ht : t < n) (h6 : kg kf t 6 = 0) : WG (tnF kf vf t).1 (tnF kf vf t).2 c (B + 2000) := by
  obtain ⟨-, -, ⟨a, ha, ea⟩, -⟩ := hw.2.2.2.2.1 t ht
  exact wg_tnL 502 _ _ n a (wf_pays hw ht) (wg_pays hw h ht) ht (by rw [pays_oth _ _ _ (by decide) (by omega)]; exact h6) (by rw [pays_oth _ _ _ (by decide) (by omega)]; exact ea) ha
/-- wakes: those before u have been seen -/
theorem wg_wkS {k : KF} {vf : VF} {z B n u : Nat} (hw : WF k n) (hz : z < 2 ^ 30) (hu : u < n) (h0 : k 0 = nI z) (h : TG k vf u z B) : TG (wkS (nI z) u k) vf u (z + 1) B ∧ ∀ i, i ≠ 229 → ¬ (400 + 20 * u ≤ i ∧ i < 400 + 20 * u + 20) → wkS (nI z) u k i = k i := by
  have hn := hw.1.2
  obtain ⟨⟨h1, h2⟩, h3, h4, ⟨p, hp1, hp2, hp⟩, ⟨h5, e, he, he2, he3⟩, h6, h7⟩ := h
  unfold wkS
  split
  · rename_i c1
    exact ⟨⟨⟨h1, fun q => by rw [c1] at q; exact absurd q (by decide)⟩, h3, h4, ⟨p, hp1, hp2, hp⟩, ⟨h5, e, he, by omega, fun _ q => absurd c1 q⟩, h6, h7⟩, fun _ _ _ => rfl⟩
  · rename_i c1
    have q1 : WF (wk1 (nI z) u k) n ∧ (∀ i, ¬ (400 + 20 * u ≤ i ∧ i < 400 + 20 * u + 20) → wk1 (nI z) u k i = k i) ∧ (∀ w, w < 20 → w < 6 ∨ 8 < w → kg (wk1 (nI z) u k) u w = kg k u w) ∧ gA (kg (wk1 (nI z) u k) u 6) (kg (wk1 (nI z) u k) u 7) (kg (wk1 (nI z) u k) u 8) (z + 1) := by
      refine ⟨wf_wk1 hw hu, ?_⟩
      unfold wk1
      split
      · refine ⟨fun i hi => rdy_at _ _ _ (by omega) (by omega) (by omega), fun w hw2 q => rdy_oth _ _ _ _ hw2 (Or.inr q), ?_⟩
        have e7 : kg (rdy k u) u 7 = -1 := by rw [rdy, kg_ne _ _ _ _ _ _ (by decide) (by decide) (by decide), kg_eq]
        have e8 : kg (rdy k u) u 8 = -1 := by rw [rdy, kg_eq]
        rw [rdy_6, e7, e8]
        exact ⟨fun _ => ⟨rfl, rfl⟩, fun q => absurd q (by decide)⟩
      · rename_i c2
        refine ⟨fun _ _ => rfl, fun _ _ _ => rfl, h1, fun q => ?_⟩
        obtain ⟨v, hv, hv2, hv3⟩ := h2 q
        refine ⟨v, hv, ?_, by omega⟩
        have : v ≠ z := fun y => c2 ⟨q, by rw [hv, y]⟩
        omega
    generalize wk1 (nI z) u k = k1 at q1 ⊢
    obtain ⟨w1, o1, g1, gA1⟩ := q1
    have h7' : ∀ k2 : KF, (∀ i, 4400 ≤ i → k2 i = k1 i) → kg k2 u 14 = kg k1 u 14 → gH k2 u := fun k2 q1 q2 i hi => by
      have m : mny k2 u = mny k u := by unfold mny; rw [q2, g1 14 (by decide) (by omega)]
      rw [m] at hi
      rw [q1 _ (by omega), o1 _ (by omega)]
      exact h7 i hi
    unfold wk2
    split
    · rename_i c2
      have hdue : kg k u 0 = 1 ∨ kg k u 0 = 2 := by
        have := due_iff.mp c2.1
        rw [g1 0 (by decide) (by omega)] at this
        exact this
      have r : ∀ w, w < 20 → w ≠ 12 → w ≠ 13 → kg (bd (ks (ks k1 u 12 (nI z + kg k1 u 10)) u 13 (kg (ks k1 u 12 (nI z + kg k1 u 10)) u 11)) 9) u w = kg k1 u w := fun w hw q1 q2 => by
        rw [kg_bd _ _ _ _ (by decide), kg_ne _ _ _ _ _ _ (by decide) hw q2, kg_ne _ _ _ _ _ _ (by decide) hw q1]
      have r12 : kg (bd (ks (ks k1 u 12 (nI z + kg k1 u 10)) u 13 (kg (ks k1 u 12 (nI z + kg k1 u 10)) u 11)) 9) u 12 = nI (z + p) := by
        rw [kg_bd _ _ _ _ (by decide), kg_ne _ _ _ _ _ _ (by decide) (by decide) (by decide), kg_eq, g1 10 (by decide) (by omega), hp, nI_add]
      have ro : ∀ i, i ≠ 229 → i ≠ 400 + 20 * u + 12 → i ≠ 400 + 20 * u + 13 → bd (ks (ks k1 u 12 (nI z + kg k1 u 10)) u 13 (kg (ks k1 u 12 (nI z + kg k1 u 10)) u 11)) 9 i = k1 i := fun i q1 q2 q3 => by
        rw [k_bd _ _ _ (by omega), ks_at _ _ _ _ _ q3, ks_at _ _ _ _ _ q2]
      generalize bd (ks (ks k1 u 12 (nI z + kg k1 u 10)) u 13 (kg (ks k1 u 12 (nI z + kg k1 u 10)) u 11)) 9 = k2 at r r12 ro ⊢
      refine ⟨?_, fun i q1 q2 => by rw [ro i q1 (by omega) (by omega)]; exact o1 i q2⟩
      unfold TG
      rw [r 6 (by decide) (by omega) (by omega), r 7 (by decide) (by omega) (by omega), r 8 (by decide) (by omega) (by omega), r 4 (by decide) (by omega) (by omega), r 2 (by decide) (by omega) (by omega), r 3 (by decide) (by omega) (by omega), r 10 (by decide) (by omega) (by omega), r 0 (by decide) (by omega) (by omega), r 11 (by decide) (by omega) (by omega), r12, g1 4 (by decide) (by omega), g1 2 (by decide) (by omega), g1 3 (by decide) (by omega), g1 10 (by decide) (by omega), g1 0 (by decide) (by omega)]
      exact ⟨gA1, h3, h4, ⟨p, hp1, hp2, hp⟩, ⟨fun q => absurd hdue q, z + p, rfl, by omega, fun _ _ => by omega⟩, h6, h7' k2 (fun i hi => ro i (by omega) (by omega) (by omega)) (r 14 (by decide) (by omega) (by omega))⟩
    · rename_i c2
      refine ⟨?_, fun i q1 q2 => o1 i q2⟩
      unfold TG
      rw [g1 4 (by decide) (by omega), g1 2 (by decide) (by omega), g1 3 (by decide) (by omega), g1 10 (by decide) (by omega), g1 0 (by decide) (by omega), g1 11 (by decide) (by omega), g1 12 (by decide) (by omega), g1 13 (by decide) (by omega)]
      refine ⟨gA1, h3, h4, ⟨p, hp1, hp2, hp⟩, ⟨h5, e, he, by omega, fun q _ => ?_⟩, h6, h7' k1 (fun _ _ => rfl) rfl⟩
      have a1 := he3 q c1
      have : e ≠ z := fun y => c2 ⟨by unfold isDue; rw [g1 0 (by decide) (by omega)]; simp [q], by rw [g1 12 (by decide) (by omega), he, y]⟩
      omega
theorem wg_wk {kf : KF} {vf : VF} {z B n : Nat} (hw : WF kf n) (h : WG kf vf z B) (hz : z < 2 ^ 30) (h0 : kf 0 = nI z) : WG (wkF kf) vf (z + 1) B := by
  have hn := hw.1.2
  have hnt := hw.nt
  have L : ∀ i, i ≤ n → (∀ t, t < i → TG (lp (wkS (nI z)) i kf) vf t (z + 1) B) ∧ (∀ t, i ≤ t → t < n → TG (lp (wkS (nI z)) i kf) vf t z B) ∧ ∀ j, j ≠ 229 → ¬ (400 ≤ j ∧ j < 4400) → lp (wkS (nI z)) i kf j = kf j := by
    intro i
    induction i with
    | zero => intro _; exact ⟨fun t ht => absurd ht (Nat.not_lt_zero _), fun t _ ht => h.at hw ht, fun _ _ _ => rfl⟩
    | succ i ih =>
      intro hi
      obtain ⟨a1, a2, a3⟩ := ih (by omega)
      have w1 := wf_wk (c := nI z) hw i (by omega)
      show (∀ t, t < i + 1 → TG (wkS (nI z) i (lp (wkS (nI z)) i kf)) vf t (z + 1) B) ∧ (∀ t, i + 1 ≤ t → t < n → TG (wkS (nI z) i (lp (wkS (nI z)) i kf)) vf t z B) ∧ ∀ j, j ≠ 229 → ¬ (400 ≤ j ∧ j < 4400) → wkS (nI z) i (lp (wkS (nI z)) i kf) j = kf j
      have k0 : lp (wkS (nI z)) i kf 0 = nI z := (a3 0 (by omega) (by omega)).trans h0
      generalize lp (wkS (nI z)) i kf = k at a1 a2 a3 w1 k0 ⊢
      obtain ⟨b1, b2⟩ := wg_wkS w1 hz (by omega) k0 (a2 i (by omega) (by omega))
      have o : ∀ t, t ≠ i → t < n → ∀ c', TG k vf t c' B → TG (wkS (nI z) i k) vf t c' B := fun t ht ht2 c' q => q.cg (fun w hw => b2 _ (by omega) (by omega)) (fun j hj => b2 _ (by omega) (by omega)) rfl
      refine ⟨fun t ht => ?_, fun t ht ht2 => o t (by omega) ht2 _ (a2 t (by omega) ht2), fun j q1 q2 => (b2 j q1 (by omega)).trans (a3 j q1 q2)⟩
      by_cases q : t = i
      · subst q
        exact b1
      · exact o t q (by omega) _ (a1 t (by omega))
  obtain ⟨a1, -, a3⟩ := L n (Nat.le_refl _)
  have e : wkF kf = lp (wkS (nI z)) n kf := by rw [wkF, h0, hnt]
  rw [e]
  have nt : nT (lp (wkS (nI z)) n kf) = n := by unfold nT; rw [a3 1 (by omega) (by omega)]; exact hnt
  unfold WG
  rw [nt, a3 5 (by omega) (by omega), a3 0 (by omega) (by omega)]
  refine ⟨a1, fun l hl => ?_, h.2.2.1, z, h0, by omega, by omega⟩
  rw [a3 _ (by omega) (by omega), ← hnt]
  exact h.2.1 l hl
theorem wg_ch {kf : KF} {vf : VF} {c B n p : Nat} {lf : Nat → Int32} (hw : WF kf n) (h : WG kf vf c B) (hp : p < 4) : WG (chF kf vf lf p).1 vf c B := by
  unfold chF
  split
  · exact wg_up hw h (by unfold RG; omega)
  · dsimp only
    refine h.cg hw (fun i hi => ?_)
    unfold RG at hi
    rw [upd_ne _ _ (by omega), ptF_at _ _ _ _ _ _ _ (by omega), upd_ne _ _ (by omega)]
theorem wg_chS {kf : KF} {vf : VF} {c B n r P : Nat} {lf : Nat → Int32} (h : CI n r P 0 (kf, lf)) (hr : r + 4 ≤ 8000) (hg : WG kf vf c B) : ∀ i, i ≤ 4 → WG (lp (chS vf) i (kf, lf)).1 vf c B := by
  intro i
  induction i with
  | zero => intro _; exact hg
  | succ i ih =>
    intro hi
    have w := (h.all (vf := vf) hr i (by omega)).1
    have g := ih (by omega)
    exact wg_ch w g (by omega)
theorem wg_tu {k0 : KF} {lf : Nat → Int32} {n r P c B : Nat} {vf : VF} (hC : CI n r P 4 (k0, lf)) (hg : WG k0 vf c B) : ∀ i, i ≤ 4 → WG (lp tuS i (k0, vf)).1 (lp tuS i (k0, vf)).2 c (B + 2000 * i) := by
  intro i
  induction i with
  | zero => intro _; exact hg
  | succ i ih =>
    intro hi
    have u := UI.all (vf := vf) hC i (by omega)
    have g := ih (by omega)
    show WG (tuS i (lp tuS i (k0, vf))).1 (tuS i (lp tuS i (k0, vf))).2 c (B + 2000 * (i + 1))
    generalize lp tuS i (k0, vf) = s at u g ⊢
    obtain ⟨⟨n', hn', hW⟩, h2, h3, h0, hq⟩ := u
    obtain ⟨hW0, -, -, hq0⟩ := hC
    dsimp only at hq0 hW0
    have hn2 := hW.1.2
    unfold tuS
    rw [(hq i (by omega)).1]
    split
    · exact g.up (by omega)
    · rename_i hneg
      rcases hq0 i (by omega) with z | ⟨-, b, hb, z2, z3, z4, z5⟩
      · exact absurd (by rw [z]; decide) hneg
      · rw [z2, nI_clamp (show b < 2 ^ 31 by omega)]
        have hb6 := (hq i (by omega)).2 (Nat.le_refl _) b hb z2
        exact (wg_tn hW g (by omega) hb6).up (by omega)
theorem wg_tc {kf : KF} {vf : VF} {lf : Nat → Int32} {n r z B : Nat} (h : WF kf n) (hg : WG kf vf z B) (hz : z < 2 ^ 30) (h0 : kf 0 = nI z) (hr : kf 3 = nI r) (hc : r + 4 ≤ 8000) : WG (tcF kf vf lf).1 (tcF kf vf lf).2.1 (z + 1) (B + 8000) ∧ (tcF kf vf lf).1 0 = nI (z + 1) := by
  obtain ⟨P, hP1, hP4, hP⟩ := h.2.2.2.2.2.2.2.2
  have hC0 := tc_ci (lf := lf) h hP hr
  have hCI : CI n r P 4 ((tc1 kf vf lf).1, (tc1 kf vf lf).2) := by
    show CI n r P 4 (tc1 kf vf lf)
    rw [tc1, hP, nI_clamp (show P < 2 ^ 31 by omega)]
    exact (hC0.all (by omega) P hP4).up hP4
  have w0 : WG (c4 (wkF kf)) vf (z + 1) B := (wg_wk h hg hz h0).cg (wf_wkF h) (fun i hi => c4_at _ (by unfold RG at hi; omega))
  have g1 : WG (tc1 kf vf lf).1 vf (z + 1) B := by
    rw [tc1, hP, nI_clamp (show P < 2 ^ 31 by omega)]
    exact wg_chS hC0 (by omega) w0 P hP4
  have hU := UI.all (vf := vf) (k0 := (tc1 kf vf lf).1) hCI P hP4
  have g2 := wg_tu hCI g1 P hP4
  obtain ⟨⟨n', hn', hW⟩, -, -, e0, -⟩ := hU
  have e2 : tc2 kf vf lf = lp tuS P ((tc1 kf vf lf).1, vf) := by rw [tc2, hP, nI_clamp (show P < 2 ^ 31 by omega)]
  rw [← e2] at e0 g2 hW
  have c0 : (tc2 kf vf lf).1 0 = nI z := by
    rw [e0, tc1, hP, nI_clamp (show P < 2 ^ 31 by omega)]
    have q : ∀ i, i ≤ 4 → (lp (chS vf) i (c4 (wkF kf), lt0 lf)).1 0 = nI z := by
      intro i
      induction i with
      | zero =>
        intro _
        show c4 (wkF kf) 0 = _
        rw [c4_at _ (by omega), wkF_lo (by omega)]
        exact h0
      | succ i ih =>
        intro hi
        have := ih (by omega)
        show (chF (lp (chS vf) i (c4 (wkF kf), lt0 lf)).1 vf (lp (chS vf) i (c4 (wkF kf), lt0 lf)).2 i).1 0 = _
        generalize lp (chS vf) i (c4 (wkF kf), lt0 lf) = s at this ⊢
        unfold chF
        split
        · dsimp only
          rw [upd_ne _ _ (by omega)]
          exact this
        · dsimp only
          rw [upd_ne _ _ (by omega), ptF_at _ _ _ _ _ _ _ (by omega), upd_ne _ _ (by omega)]
          exact this
    exact q P hP4
  have e3 : (tcF kf vf lf).1 = upd (tc2 kf vf lf).1 0 (nI (z + 1)) := by
    show upd (tc2 kf vf lf).1 0 ((tc2 kf vf lf).1 0 + nI 1) = _
    rw [c0, nI_add]
  have e4 : (tcF kf vf lf).2.1 = (tc2 kf vf lf).2 := rfl
  rw [e3, e4]
  refine ⟨?_, upd_eq _ _ _⟩
  obtain ⟨q1, q2, q3, -⟩ := g2.up (show B + 2000 * P ≤ B + 8000 by omega)
  have e : ∀ i, i ≠ 0 → upd (tc2 kf vf lf).1 0 (nI (z + 1)) i = (tc2 kf vf lf).1 i := fun i hi => upd_ne _ _ hi
  have nt : nT (upd (tc2 kf vf lf).1 0 (nI (z + 1))) = nT (tc2 kf vf lf).1 := by unfold nT; rw [e 1 (by omega)]
  unfold WG
  rw [nt, e 5 (by omega), upd_eq]
  exact ⟨fun t ht => (q1 t ht).cg (fun w hw => e _ (by omega)) (fun i hi => e _ (by omega)) rfl, fun l hl => by rw [e _ (by omega)]; exact q2 l hl, q3, z + 1, rfl, by omega, by omega⟩
theorem WG.rh {kf : KF} {vf : VF} {c B n : Nat} (hw : WF kf n) (h : WG kf vf c B) (hB : B < 2 ^ 40) (hc : c < 2 ^ 30) : RH kf vf n := fun t ht => by
  obtain ⟨-, -, -, -, ⟨h5, e, he, he2, -⟩, ⟨x, hx, hxB⟩, -⟩ := h.at hw ht
  refine ⟨fun q => ⟨?_, e, by omega, he⟩, x, by omega, hx⟩
  rcases Classical.em (kg kf t 0 = 1 ∨ kg kf t 0 = 2) with z | z
  · exact due_iff.mpr z
  · rw [(h5 z).2] at q
    exact absurd q (by decide)
