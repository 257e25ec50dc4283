/-! writes to a kernel -/
theorem rd_sI (m : Mem) (f a : Nat) (x : Int32) (c : Nat × Nat × Nat) : rd (sI m f a x) c = if c = (0, f, a) then x else rd m c := by
  obtain ⟨k, p, q⟩ := c
  unfold rd
  dsimp only
  by_cases hk : k = 0
  · subst hk
    rw [if_pos rfl, if_pos rfl]
    by_cases h1 : p = f
    · by_cases h2 : q = a
      · subst h1; subst h2
        rw [if_pos rfl]
        exact u2_eq _ _ _ _
      · rw [if_neg (fun e => h2 (congrArg (fun z => z.2.2) e))]
        exact u2_na _ _ h2
    · rw [if_neg (fun e => h1 (congrArg (fun z => z.2.1) e))]
      exact u2_nf _ _ h1
  · rw [if_neg hk, if_neg hk, if_neg (fun e => hk (congrArg (fun z => z.1) e))]
    rfl
theorem rd_sAI (m : Mem) (a i : Nat) (x : Int32) (c : Nat × Nat × Nat) (hc : c.1 ≤ 1) : rd (sAI m a i x) c = if c = (1, i, a) then x else rd m c := by
  obtain ⟨k, p, q⟩ := c
  have hc : k ≤ 1 := hc
  by_cases hk : k = 0
  · subst hk
    rw [if_neg (fun e => absurd (congrArg (fun z : Nat × Nat × Nat => z.1) e) Nat.zero_ne_one)]
    rfl
  · have : k = 1 := by omega
    subst this
    show aI (sAI m a i x) q p = if (1, p, q) = (1, i, a) then x else aI m q p
    by_cases h1 : q = a
    · by_cases h2 : p = i
      · subst h1; subst h2
        rw [if_pos rfl]
        exact u2_eq _ _ _ _
      · rw [if_neg (fun e => h2 (congrArg (fun z : Nat × Nat × Nat => z.2.1) e))]
        exact u2_na _ _ h2
    · rw [if_neg (fun e => h1 (congrArg (fun z : Nat × Nat × Nat => z.2.2) e))]
      exact u2_nf _ _ h1
theorem lr_1 (ρ j : Nat) : (lr ρ j).1 ≤ 1 := by
  unfold lr
  repeat' split
  all_goals first | exact Nat.zero_le _ | exact Nat.le_refl _
/-- places that say how far others matter -/
def Ex (j : Nat) : Prop := j = 1 ∨ j = 3 ∨ j = 5 ∨ (340 ≤ j ∧ j < 372) ∨ ∃ t, t < 200 ∧ j = 400 + 20 * t + 14
theorem rl_up {ρ n j : Nat} {kf : KF} {x : Int32} (hn : n ≤ 200) (hx : ¬ Ex j) : ∀ i, Rl ρ (upd kf j x) n i ↔ Rl ρ kf n i := fun i => by
  have e3 : upd kf j x 3 = kf 3 := upd_ne _ _ (fun e => hx (by unfold Ex; omega))
  have e5 : upd kf j x 5 = kf 5 := upd_ne _ _ (fun e => hx (by unfold Ex; omega))
  have ep : ∀ p, p < 32 → plen (upd kf j x) p = plen kf p := fun p hp => congrArg Int32.toNatClampNeg (upd_ne _ _ (fun e => hx (by unfold Ex; omega)))
  have et : ∀ t, t < n → kg (upd kf j x) t 14 = kg kf t 14 := fun t ht => upd_ne _ _ (fun e => hx (Or.inr (Or.inr (Or.inr (Or.inr ⟨t, by omega, e.symm⟩)))))
  unfold Rl
  rw [e3, e5]
  constructor
  · rintro (h | h | h | h | h | h | ⟨t, i, h1, h0, h2, h3⟩ | ⟨p, i, h1, h2, h3⟩ | h)
    · exact Or.inl h
    · exact Or.inr (Or.inl h)
    · exact Or.inr (Or.inr (Or.inl h))
    · exact Or.inr (Or.inr (Or.inr (Or.inl h)))
    · exact Or.inr (Or.inr (Or.inr (Or.inr (Or.inl h))))
    · exact Or.inr (Or.inr (Or.inr (Or.inr (Or.inr (Or.inl h)))))
    · rw [et t h1] at h0 h2
      exact Or.inr (Or.inr (Or.inr (Or.inr (Or.inr (Or.inr (Or.inl ⟨t, i, h1, h0, h2, h3⟩))))))
    · rw [ep p h1] at h2
      exact Or.inr (Or.inr (Or.inr (Or.inr (Or.inr (Or.inr (Or.inr (Or.inl ⟨p, i, h1, h2, h3⟩)))))))
    · exact Or.inr (Or.inr (Or.inr (Or.inr (Or.inr (Or.inr (Or.inr (Or.inr h)))))))
  · rintro (h | h | h | h | h | h | ⟨t, i, h1, h0, h2, h3⟩ | ⟨p, i, h1, h2, h3⟩ | h)
    · exact Or.inl h
    · exact Or.inr (Or.inl h)
    · exact Or.inr (Or.inr (Or.inl h))
    · exact Or.inr (Or.inr (Or.inr (Or.inl h)))
    · exact Or.inr (Or.inr (Or.inr (Or.inr (Or.inl h))))
    · exact Or.inr (Or.inr (Or.inr (Or.inr (Or.inr (Or.inl h)))))
    · rw [← et t h1] at h0 h2
      exact Or.inr (Or.inr (Or.inr (Or.inr (Or.inr (Or.inr (Or.inl ⟨t, i, h1, h0, h2, h3⟩))))))
    · rw [← ep p h1] at h2
      exact Or.inr (Or.inr (Or.inr (Or.inr (Or.inr (Or.inr (Or.inr (Or.inl ⟨p, i, h1, h2, h3⟩)))))))
    · exact Or.inr (Or.inr (Or.inr (Or.inr (Or.inr (Or.inr (Or.inr (Or.inr h)))))))
/-- the number at place j is written -/
theorem KV.w {m m' : Mem} {Y : YY} {ρ n j : Nat} {kf : KF} {vf : VF} {x : Int32} (hT : KT m Y) (h : KV m Y ρ kf vf n) (hρ : 62000 ≤ ρ) (hT' : KT m' Y) (hj : Rl ρ kf n j) (hx : ¬ Ex j) (hm : ∀ c : Nat × Nat × Nat, c.1 ≤ 1 → rd m' c = if c = lo Y ρ j then x else rd m c) (hN : gN m' = gN m) (hP : gP m' = gP m) (hL : gL m' = gL m) : KV m' Y ρ (upd kf j x) vf n := by
  have hn := h.2.2.2.2.2.2
  have ep : ∀ p, p < 32 → plen (upd kf j x) p = plen kf p := fun p hp => congrArg Int32.toNatClampNeg (upd_ne _ _ (fun e => hx (by unfold Ex; omega)))
  have et : ∀ t, t < n → kg (upd kf j x) t 14 = kg kf t 14 := fun t ht => upd_ne _ _ (fun e => hx (Or.inr (Or.inr (Or.inr (Or.inr ⟨t, by omega, e.symm⟩)))))
  refine KV.of hρ hT' (fun i hi => ?_) (fun t ht => by rw [hL]; exact (h.2.2.2.1 t ht).2.1) (fun t ht h0 => ?_) (fun p hp => ?_) ?_ ?_ h.2.2.2.2.2.2
  · have hi' := (rl_up hn hx i).mp hi
    rw [hm (lo Y ρ i) (lr_1 ρ i)]
    by_cases e : i = j
    · subst e
      rw [if_pos rfl, upd_eq]
    · rw [if_neg (fun q => e (lo_inj hT h hρ hi' hj q)), upd_ne _ _ e]
      exact h.r hρ i hi'
  · rw [et t ht] at h0 ⊢
    rw [hP]
    exact ⟨((h.2.2.2.1 t ht).2.2 h0).1, ((h.2.2.2.1 t ht).2.2 h0).2.1⟩
  · rw [ep p hp, hN]
    exact (h.2.2.1 p hp).2.1
  · rw [hN, upd_ne _ _ (fun e => hx (by unfold Ex; omega))]
    exact h.2.2.2.2.1.1
  · rw [upd_ne _ _ (fun e => hx (by unfold Ex; omega))]
    exact h.2.2.2.2.2.1
section KW
variable {Z : Mem × YY} {m : Mem} {Y : YY} {ρ n : Nat} {kf : KF} {vf : VF} {x : Int32}
/-- a field of a task -/
theorem KQ.t (h : KQ Z m Y ρ kf vf n) (hρ : 62000 ≤ ρ) {t w f : Nat} (ht : t < n) (hw : w < 14) (hf : f = tf w) : KQ Z (sI m f (Y.1 (9 + t)) x) Y ρ (ks kf t w x) vf n := by
  subst hf
  have hn := h.2.1.2.2.2.2.2.2
  have q := tf_n (show w < 15 by omega)
  have hT' : KT (sI m (tf w) (Y.1 (9 + t)) x) Y := h.1.sI (by omega)
  refine ⟨hT', h.2.1.w h.1 hρ hT' (j := 400 + 20 * t + w) (Or.inr (Or.inr (Or.inr (Or.inr (Or.inr (Or.inl ⟨t, w, ht, by omega, rfl⟩)))))) ?_ (fun c _ => ?_) rfl rfl rfl, h.2.2.sI (h.1.ow (by omega)) (by omega)⟩
  · rintro (e | e | e | e | ⟨s, hs, e⟩) <;> omega
  · rw [rd_sI, lo, lr_t (by omega) (by omega)]
/-- the kernel's own numbers: clock, processors, ringsRefused -/
theorem KQ.k (h : KQ Z m Y ρ kf vf n) (hρ : 62000 ≤ ρ) {j f : Nat} (hj : j = 0 ∧ f = 8 ∨ j = 2 ∧ f = 9 ∨ j = 4 ∧ f = 11) : KQ Z (sI m f (Y.1 0) x) Y ρ (upd kf j x) vf n := by
  have hT' : KT (sI m f (Y.1 0) x) Y := h.1.sI (by omega)
  refine ⟨hT', h.2.1.w h.1 hρ hT' (j := j) (Or.inl (by omega)) ?_ (fun c _ => ?_) rfl rfl rfl, h.2.2.sI (h.1.ow (by omega)) (by omega)⟩
  · rintro (e | e | e | e | ⟨s, hs, e⟩) <;> omega
  · rw [rd_sI, lo]
    rcases hj with ⟨rfl, rfl⟩ | ⟨rfl, rfl⟩ | ⟨rfl, rfl⟩ <;> rfl
/-- an element of chosen, ran, holders -/
theorem KQ.ch (h : KQ Z m Y ρ kf vf n) (hρ : 62000 ≤ ρ) {i : Nat} (hi : i < 4) : KQ Z (sAI m (Y.1 6) i x) Y ρ (upd kf (7 + i) x) vf n := by
  have hT' : KT (sAI m (Y.1 6) i x) Y := h.1.sAI
  refine ⟨hT', h.2.1.w h.1 hρ hT' (j := 7 + i) (by unfold Rl; omega) ?_ (fun c hc => ?_) rfl rfl rfl, h.2.2.sAI (h.1.ow (by omega)) (by omega)⟩
  · rintro (e | e | e | e | ⟨s, hs, e⟩) <;> omega
  · rw [rd_sAI _ _ _ _ _ hc, lo, lr_ch hi]
theorem KQ.ra (h : KQ Z m Y ρ kf vf n) (hρ : 62000 ≤ ρ) {i : Nat} (hi : i < 12) : KQ Z (sAI m (Y.1 8) i x) Y ρ (upd kf (220 + i) x) vf n := by
  have hT' : KT (sAI m (Y.1 8) i x) Y := h.1.sAI
  refine ⟨hT', h.2.1.w h.1 hρ hT' (j := 220 + i) (by unfold Rl; omega) ?_ (fun c hc => ?_) rfl rfl rfl, h.2.2.sAI (h.1.ow (by omega)) (by omega)⟩
  · rintro (e | e | e | e | ⟨s, hs, e⟩) <;> omega
  · rw [rd_sAI _ _ _ _ _ hc, lo, lr_ra hi]
theorem KQ.ho (h : KQ Z m Y ρ kf vf n) (hρ : 62000 ≤ ρ) {i : Nat} (hi : i < 100) : KQ Z (sAI m (Y.1 5) i x) Y ρ (upd kf (240 + i) x) vf n := by
  have hT' : KT (sAI m (Y.1 5) i x) Y := h.1.sAI
  refine ⟨hT', h.2.1.w h.1 hρ hT' (j := 240 + i) (by unfold Rl; omega) ?_ (fun c hc => ?_) rfl rfl rfl, h.2.2.sAI (h.1.ow (by omega)) (by omega)⟩
  · rintro (e | e | e | e | ⟨s, hs, e⟩) <;> omega
  · rw [rd_sAI _ _ _ _ _ hc, lo, lr_ho hi]
/-- a short -/
theorem KQ.sh (h : KQ Z m Y ρ kf vf n) (hρ : 62000 ≤ ρ) {t i : Nat} (ht : t < n) (h0 : 0 ≤ kg kf t 14) (hi : i < (kg kf t 14).toNatClampNeg) : KQ Z (sAI m (Y.1 (273 + t)) i x) Y ρ (upd kf (4400 + 128 * t + i) x) vf n := by
  have hn := h.2.1.2.2.2.2.2.2
  have hT' : KT (sAI m (Y.1 (273 + t)) i x) Y := h.1.sAI
  have q := (h.2.1.2.2.2.1 t ht).2.2 h0
  refine ⟨hT', h.2.1.w h.1 hρ hT' (j := 4400 + 128 * t + i) (Or.inr (Or.inr (Or.inr (Or.inr (Or.inr (Or.inr (Or.inl ⟨t, i, ht, h0, hi, by omega, rfl⟩))))))) ?_ (fun c hc => ?_) rfl rfl rfl, h.2.2.sAI (h.1.injS (r := 0) (by omega) q.1) (by omega)⟩
  · rintro (e | e | e | e | ⟨s, hs, e⟩) <;> omega
  · rw [rd_sAI _ _ _ _ _ hc, lo, lr_s (by omega) (by omega)]
/-- an element of the rows -/
theorem KQ.rw (h : KQ Z m Y ρ kf vf n) (hρ : 62000 ≤ ρ) {i : Nat} (hi : i < 5 * (kf 3).toNatClampNeg) : KQ Z (sAI m (Y.1 4) i x) Y ρ (upd kf (ρ + i) x) vf n := by
  have hT' : KT (sAI m (Y.1 4) i x) Y := h.1.sAI
  have b := h.1.2.2.2.2.2
  have c := h.2.1.2.2.2.2.1.1
  unfold LC at b
  refine ⟨hT', h.2.1.w h.1 hρ hT' (j := ρ + i) (Or.inr (Or.inr (Or.inr (Or.inr (Or.inr (Or.inr (Or.inr (Or.inr ⟨i, hi, by omega, rfl⟩)))))))) ?_ (fun c hc => ?_) rfl rfl rfl, h.2.2.sAI (h.1.ow (by omega)) (by omega)⟩
  · rintro (e | e | e | e | ⟨s, hs, e⟩) <;> omega
  · rw [rd_sAI _ _ _ _ _ hc, lo, lr_r hρ]
/-- VIRTUAL, and the standing -/
theorem KQ.v (h : KQ Z m Y ρ kf vf n) {t : Nat} {y : Int64} (ht : t < n) : KQ Z (sL m 84 (Y.1 (9 + t)) y) Y ρ kf (vp_updL vf t y) n := by
  have hn := h.2.1.2.2.2.2.2.2
  refine ⟨h.1.sL, ⟨h.2.1.1, h.2.1.2.1, h.2.1.2.2.1, fun s hs => ⟨(h.2.1.2.2.2.1 s hs).1, ?_, (h.2.1.2.2.2.1 s hs).2.2⟩, h.2.1.2.2.2.2⟩, h.2.2.sL (h.1.ow (by omega)) (by omega)⟩
  by_cases e : s = t
  · subst e
    refine (u2_eq (gL m) 84 (Y.1 (9 + s)) y).trans ?_
    simp [vp_updL]
  · refine (u2_na (gL m) (f := 84) (f' := 84) y (h.1.inj (r := 9 + s) (s := 9 + t) (by omega) (by omega) (by omega))).trans ?_
    rw [(h.2.1.2.2.2.1 s hs).2.1]
    simp [vp_updL, e]
theorem KQ.s (h : KQ Z m Y ρ kf vf n) {t : Nat} {y : Int64} (ht : t < 200) : KQ Z (sL m 98 (Y.1 (9 + t)) y) Y ρ kf vf n := by
  refine ⟨h.1.sL, ⟨h.2.1.1, h.2.1.2.1, h.2.1.2.2.1, fun s hs => ⟨(h.2.1.2.2.2.1 s hs).1, ?_, (h.2.1.2.2.2.1 s hs).2.2⟩, h.2.1.2.2.2.2⟩, h.2.2.sL (h.1.ow (by omega)) (by omega)⟩
  exact (u2_nf (gL m) (f := 98) (a := Y.1 (9 + t)) (f' := 84) y (by decide)).trans (h.2.1.2.2.2.1 s hs).2.1
-- reads
theorem KQ.T (h : KQ Z m Y ρ kf vf n) (r : Nat) (hr : r < 273) : gT m (Y.1 r) = tyR r := (h.1.1 r hr).1
theorem KQ.Tt (h : KQ Z m Y ρ kf vf n) {t : Nat} (ht : t < 200) : gT m (Y.1 (9 + t)) = 5 := by
  rw [h.T _ (by omega), tyR, if_neg (by omega), if_neg (by omega), if_neg (by omega), if_neg (by omega), if_neg (by omega), if_pos (by omega)]
theorem KQ.Tp (h : KQ Z m Y ρ kf vf n) {p : Nat} (hp : p < 32) : gT m (Y.1 (209 + p)) = 3 := by
  rw [h.T _ (by omega), tyR, if_neg (by omega), if_neg (by omega), if_neg (by omega), if_neg (by omega), if_neg (by omega), if_neg (by omega), if_pos (by omega)]
theorem KQ.Tb (h : KQ Z m Y ρ kf vf n) {p : Nat} (hp : p < 32) : gT m (Y.1 (241 + p)) = 11 := by
  rw [h.T _ (by omega), tyR, if_neg (by omega), if_neg (by omega), if_neg (by omega), if_neg (by omega), if_neg (by omega), if_neg (by omega), if_neg (by omega)]
theorem KQ.n2 (h : KQ Z m Y ρ kf vf n) : n ≤ 200 := h.2.1.2.2.2.2.2.2
theorem KQ.n1 (h : KQ Z m Y ρ kf vf n) : kf 1 = nI n := h.2.1.2.2.2.2.2.1
theorem KQ.gt (h : KQ Z m Y ρ kf vf n) {t : Nat} (ht : t < n) (w f : Nat) (hw : w < 15) (hf : f = tf w) : gI m f (Y.1 (9 + t)) = kg kf t w := hf ▸ (h.2.1.2.2.2.1 t ht).1 w hw
theorem KQ.gv (h : KQ Z m Y ρ kf vf n) {t : Nat} (ht : t < n) : gL m 84 (Y.1 (9 + t)) = vf t := (h.2.1.2.2.2.1 t ht).2.1
theorem KQ.gno (h : KQ Z m Y ρ kf vf n) {t : Nat} (ht : t < 200) : gI m 80 (Y.1 (9 + t)) = nI t := (h.1.2.2.2.2.1 t ht).2.1
theorem KQ.pt (h : KQ Z m Y ρ kf vf n) {t : Nat} (ht : t < 200) : aP m (Y.1 1) t = some (Y.1 (9 + t)) := (h.1.2.2.2.2.1 t ht).1
theorem KQ.pp (h : KQ Z m Y ρ kf vf n) {p : Nat} (hp : p < 32) : aP m (Y.1 2) p = some (Y.1 (209 + p)) := (h.1.2.2.2.1 p hp).1
theorem KQ.n7 (h : KQ Z m Y ρ kf vf n) : gI m 7 (Y.1 0) = nI n := h.2.1.1.2.1.trans h.n1
end KW
