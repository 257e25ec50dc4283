/-! RANKS as one long; STANDINGS as the class finds them -/
theorem sh8 (x : Nat) : lN x <<< ((nI 8).toInt64 &&& 63) = lN (x * 256) := by
  show lN x <<< (8 : Int64) = _
  apply Int64.toBitVec_inj.mp
  apply BitVec.eq_of_toNat_eq
  simp [lN, Nat.shiftLeft_eq]
theorem lN_toNat {x : Nat} (h : x < 2 ^ 63) : (lN x).toBitVec.toNat = x := by
  simp [lN]
  omega
theorem lN_ti {x : Nat} (h : x < 2 ^ 63) : (lN x).toInt = x := by
  show (lN x).toBitVec.toInt = x
  rw [BitVec.toInt_eq_toNat_of_lt (by rw [lN_toNat h]; omega), lN_toNat h]
theorem lN_l63 {a b : Nat} (ha : a < 2 ^ 63) (hb : b < 2 ^ 63) : lN a < lN b ↔ a < b := by
  rw [Int64.lt_iff_toInt_lt, lN_ti ha, lN_ti hb]
  omega
theorem lN_e63 {a b : Nat} (ha : a < 2 ^ 63) (hb : b < 2 ^ 63) : lN a = lN b ↔ a = b := by
  constructor
  · intro h
    have := lN_ti ha
    rw [h, lN_ti hb] at this
    omega
  · intro h
    rw [h]
theorem sr_g {x k : Nat} (h : x < 2 ^ 63) : (lN x).toBitVec.sshiftRight k = (lN (x / 2 ^ k)).toBitVec := by
  have h2 : x / 2 ^ k < 2 ^ 63 := Nat.lt_of_le_of_lt (Nat.div_le_self _ _) h
  apply BitVec.eq_of_toInt_eq
  rw [BitVec.toInt_sshiftRight]
  have e1 : (lN x).toBitVec.toInt = x := lN_ti h
  have e2 : (lN (x / 2 ^ k)).toBitVec.toInt = (x / 2 ^ k : Nat) := lN_ti h2
  rw [e1, e2, Int.shiftRight_eq_div_pow]
  simp
theorem sr8 {x : Nat} (h : x < 2 ^ 63) : lN x >>> ((nI 8).toInt64 &&& 63) = lN (x / 2 ^ 8) := by
  show lN x >>> (8 : Int64) = _
  apply Int64.toBitVec_inj.mp
  exact sr_g h
theorem sr48 {x : Nat} (h : x < 2 ^ 63) : lN x >>> ((nI 48).toInt64 &&& 63) = lN (x / 2 ^ 48) := by
  show lN x >>> (48 : Int64) = _
  apply Int64.toBitVec_inj.mp
  exact sr_g h
theorem an40 {x : Nat} (h : x < 2 ^ 63) : lN x &&& 1099511627775 = lN (x % 2 ^ 40) := by
  apply Int64.toBitVec_inj.mp
  apply BitVec.eq_of_toNat_eq
  rw [Int64.toBitVec_and, BitVec.toNat_and, lN_toNat h, lN_toNat (x := x % 2 ^ 40) (by omega)]
  exact Nat.and_two_pow_sub_one_eq_mod x 40
theorem an8 {x : Nat} (h : x < 2 ^ 63) : lN x &&& lN 255 = lN (x % 2 ^ 8) := by
  apply Int64.toBitVec_inj.mp
  apply BitVec.eq_of_toNat_eq
  rw [Int64.toBitVec_and, BitVec.toNat_and, lN_toNat h, lN_toNat (x := 255) (by decide), lN_toNat (x := x % 2 ^ 8) (by omega)]
  exact Nat.and_two_pow_sub_one_eq_mod x 8
/-- what ranks need of a task -/
def RH (kf : KF) (vf : VF) (n : Nat) : Prop := ∀ t, t < n → (0 < kg kf t 13 → isDue kf t = true ∧ ∃ e, e < 2 ^ 31 ∧ kg kf t 12 = nI e) ∧ ∃ x, x < 2 ^ 40 ∧ vf t = lN x
def rkN (kf : KF) (vf : VF) (t : Nat) : Nat := (if 0 < kg kf t 13 then (kg kf t 12).toNatClampNeg * 256 else 281474976710656 + (vf t).toInt.toNat * 256) + t
section Rank
variable {kf : KF} {vf : VF} {n t u : Nat}
theorem RH.cz (h : RH kf vf n) (ht : t < n) : c0 kf t = decide (0 < kg kf t 13) := by
  unfold c0
  by_cases q : 0 < kg kf t 13
  · rw [((h t ht).1 q).1]
    simp
  · simp [q]
/-- a rank, taken to pieces -/
theorem RH.pcs (h : RH kf vf n) (hn : n ≤ 200) (ht : t < n) : ∃ c k, c ≤ 1 ∧ k < 2 ^ 40 ∧ (c = 0 ↔ c0 kf t = true) ∧ key kf vf t = lN k ∧ cls kf t = nI c ∧ rkN kf vf t = c * 281474976710656 + k * 256 + t ∧ rkA kf vf t = lN (c * 281474976710656 + k * 256 + t) := by
  have hc := h.cz ht
  obtain ⟨h1, x, hx, ex⟩ := h t ht
  unfold key cls rkN rkA
  by_cases q : 0 < kg kf t 13
  · obtain ⟨-, e, he, ee⟩ := h1 q
    rw [decide_eq_true q] at hc
    refine ⟨0, e, by omega, by omega, by simp [hc], ?_, ?_, ?_, ?_⟩
    · rw [hc, if_pos rfl, ee, nI_l he]
    · rw [hc]
      rfl
    · rw [if_pos q, ee, nI_clamp he, Nat.zero_mul, Nat.zero_add]
    · rw [if_pos q, ee, nI_l he, sh8, lN_add, Nat.zero_mul, Nat.zero_add]
  · rw [decide_eq_false q] at hc
    refine ⟨1, x, by omega, by omega, by simp [hc], ?_, ?_, ?_, ?_⟩
    · rw [hc, if_neg (by decide), ex]
    · rw [hc]
      rfl
    · rw [if_neg q, ex, lN_ti (by omega)]
      omega
    · rw [if_neg q, ex, sh8]
      have : (281474976710656 : Int64) = lN 281474976710656 := rfl
      rw [this, lN_add, lN_add, Nat.one_mul]
theorem RH.rk (h : RH kf vf n) (hn : n ≤ 200) (ht : t < n) : rkA kf vf t = lN (rkN kf vf t) ∧ rkN kf vf t < 2 ^ 50 := by
  obtain ⟨c, k, h1, h2, -, -, -, e1, e2⟩ := h.pcs hn ht
  rw [e1, e2]
  exact ⟨rfl, by omega⟩
theorem RH.cl (h : RH kf vf n) (hn : n ≤ 200) (ht : t < n) : clX (rkA kf vf t) = cls kf t := by
  obtain ⟨c, k, h1, h2, -, -, e3, -, e2⟩ := h.pcs hn ht
  rw [e2, e3, clX, sr48 (by omega), lN_i]
  first
  | exact congrArg nI (by omega)
  | exact congrArg lN (by omega)
theorem RH.ke (h : RH kf vf n) (hn : n ≤ 200) (ht : t < n) : keX (rkA kf vf t) = key kf vf t := by
  obtain ⟨c, k, h1, h2, -, e3, -, -, e2⟩ := h.pcs hn ht
  rw [e2, e3, keX, sr8 (by omega), an40 (by omega)]
  first
  | exact congrArg nI (by omega)
  | exact congrArg lN (by omega)
theorem RH.nu (h : RH kf vf n) (hn : n ≤ 200) (ht : t < n) : nuX (rkA kf vf t) = nI t := by
  obtain ⟨c, k, h1, h2, -, e3, -, -, e2⟩ := h.pcs hn ht
  rw [e2, nuX, an8 (by omega), lN_i]
  first
  | exact congrArg nI (by omega)
  | exact congrArg lN (by omega)
theorem RH.inj (h : RH kf vf n) (hn : n ≤ 200) (ht : t < n) (hu : u < n) (e : rkA kf vf t = rkA kf vf u) : t = u := by
  have h1 := h.nu hn ht
  rw [e, h.nu hn hu] at h1
  exact ((nI_eq (by omega) (by omega)).mp h1).symm
theorem RH.lt (h : RH kf vf n) (hn : n ≤ 200) (ht : t < n) (hu : u < n) : rkA kf vf t < rkA kf vf u ↔ rkN kf vf t < rkN kf vf u := by
  obtain ⟨e1, b1⟩ := h.rk hn ht
  obtain ⟨e2, b2⟩ := h.rk hn hu
  rw [e1, e2, lN_l63 (by omega) (by omega)]
/-- ahead is less -/
theorem RH.ah (h : RH kf vf n) (hn : n ≤ 200) (ht : t < n) (hu : u < n) : ahead kf vf t u = true ↔ rkA kf vf t < rkA kf vf u := by
  rw [h.lt hn ht hu]
  obtain ⟨c, k, h1, h2, h3, h4, -, e1, -⟩ := h.pcs hn ht
  obtain ⟨c', k', h1', h2', h3', h4', -, e1', -⟩ := h.pcs hn hu
  rw [e1, e1']
  unfold ahead
  rw [h4, h4']
  by_cases q : c0 kf t = c0 kf u
  · rw [if_pos q]
    have : c = c' := by
      rw [q] at h3
      by_cases z : c0 kf u = true
      · have := h3.mpr z
        have := h3'.mpr z
        omega
      · have : ¬ c = 0 := fun y => z (h3.mp y)
        have : ¬ c' = 0 := fun y => z (h3'.mp y)
        omega
    subst this
    by_cases q2 : lN k = lN k'
    · rw [if_pos q2, decide_eq_true_iff]
      have := (lN_e63 (by omega) (by omega)).mp q2
      omega
    · rw [if_neg q2, decide_eq_true_iff, lN_l63 (by omega) (by omega)]
      have : k ≠ k' := fun y => q2 (by rw [y])
      omega
  · rw [if_neg q]
    by_cases z : c0 kf t = true
    · have e := h3.mpr z
      have : ¬ c' = 0 := fun y => q (z.trans (h3'.mp y).symm)
      rw [z]
      constructor
      · intro _
        omega
      · intro _
        rfl
    · have : ¬ c = 0 := fun y => z (h3.mp y)
      have : c' = 0 := h3'.mpr (by cases h : c0 kf u; simp [h, z] at q; rfl)
      constructor
      · intro y
        exact absurd y z
      · intro _
        omega
theorem RH.nah (h : RH kf vf n) (hn : n ≤ 200) (ht : t < n) (hu : u < n) : ahead kf vf t u = false ↔ rkA kf vf u ≤ rkA kf vf t := by
  rw [← Bool.not_eq_true, h.ah hn ht hu, Int64.not_lt]
end Rank
/-- a chain of holders leads from u to t -/
def Up (kf : KF) (u t : Nat) : Prop := ∃ f, chn kf t f (nI u) = nI t
section Chain
variable {kf : KF} {vf : VF} {n t u : Nat}
theorem Up.rf (kf : KF) (t : Nat) : Up kf t t := ⟨0, rfl⟩
theorem Up.cons {a : Nat} (hu : u < 2 ^ 31) (h : nxt kf u = nI a) (k : Up kf a t) : Up kf u t := by
  obtain ⟨f, e⟩ := k
  by_cases q : nI u = nI t
  · exact ⟨0, q⟩
  · exact ⟨f + 1, by rw [chn_s hu q, h]; exact e⟩
theorem chn_nx {a : Int32} {f : Nat} (ht : t < 200) (h : chn kf t f a = nI t) : ¬ a < 0 := fun q => by
  rw [chn_neg f q] at h
  rw [h] at q
  exact absurd q (nI_pos (by omega))
theorem Up.ind (hW : WF kf n) (ht : t < n) (P : Nat → Prop) (h0 : P t) (hs : ∀ u a, u < n → a < n → nxt kf u = nI a → Up kf a t → P a → P u) (hu : u < n) (h : Up kf u t) : P u := by
  have hn := hW.1.2
  obtain ⟨f, e⟩ := h
  induction f generalizing u with
  | zero =>
    have : u = t := (nI_eq (by omega) (by omega)).mp e
    exact this ▸ h0
  | succ f ih =>
    by_cases q : nI u = nI t
    · have : u = t := (nI_eq (by omega) (by omega)).mp q
      exact this ▸ h0
    · rw [chn_s (by omega) q] at e
      obtain ⟨a, ha, ea⟩ := (nxt_ok hW.ch hu).resolve_left (chn_nx (by omega) e)
      rw [ea] at e
      exact hs u a hu ha ea ⟨f, e⟩ (ih ha e)
theorem Up.snoc (hW : WF kf n) {c : Nat} (hu : u < n) (hc : c < n) (ht : t < n) (h : Up kf u c) (e : nxt kf c = nI t) : Up kf u t := by
  have hn := hW.1.2
  refine Up.ind hW hc (fun u => Up kf u t) (Up.cons (by omega) e (Up.rf kf t)) (fun u a hu ha ea _ ih => Up.cons (by omega) ea ih) hu h
theorem wf_endN (h : WF kf n) (t : Nat) : ∀ i, i < n → chn kf t n (nI i) < 0 ∨ chn kf t n (nI i) = nI t := by
  obtain ⟨⟨h1, h2⟩, hC, hV, ⟨ρ, hA⟩, -⟩ := id h
  have hch := h.ch
  have key : ∀ f i, i < n → cB (fun y => decide (ρ y < ρ i)) n < f → chn kf t f (nI i) < 0 ∨ chn kf t f (nI i) = nI t := by
    intro f
    induction f with
    | zero => intro i _ hf; exact absurd hf (Nat.not_lt_zero _)
    | succ f ih =>
      intro i hi hf
      by_cases ht : nI i = nI t
      · right
        rw [chn, if_neg (nI_pos (by omega)), if_pos ht]
        exact ht
      · rw [chn_s (by omega) ht]
        rcases nxt_ok hch hi with hx | ⟨k, hk, ek⟩
        · left
          rw [chn_neg f hx]
          exact hx
        · rw [ek]
          refine ih k hk ?_
          have h6 : kg kf i 6 = 1 := by
            rcases Decidable.em (kg kf i 6 = 1) with q | q
            · exact q
            · rw [nxt, if_neg q] at ek
              have := nI_pos' (n := k) (by omega)
              rw [← ek] at this
              exact absurd this (by decide)
          obtain ⟨l, hl, e7, -⟩ := hC i hi h6
          have e8 : kf (240 + l) = nI k := by
            rw [nxt, if_pos h6, e7, nI_clamp (by omega)] at ek
            exact ek
          have hr := hA i k l hi hk hl h6 e7 e8
          have := cB_lt (p := fun y => decide (ρ y < ρ k)) (q := fun y => decide (ρ y < ρ i)) n (fun y _ hy => decide_eq_true (Nat.lt_trans (of_decide_eq_true hy) hr)) k hk (decide_eq_true hr) (decide_eq_false (Nat.lt_irrefl _))
          omega
  intro i hi
  refine key n i hi ?_
  have := cB_lt (p := fun y => decide (ρ y < ρ i)) (q := fun _ => true) n (fun _ _ _ => rfl) i hi rfl (decide_eq_false (Nat.lt_irrefl _))
  rw [cB_all] at this
  omega
theorem Up.rc (hW : WF kf n) (hu : u < n) (ht : t < n) : rch kf t u = true ↔ Up kf u t := by
  have hn := hW.1.2
  unfold rch
  rw [decide_eq_true_iff, hW.nt]
  constructor
  · intro h
    exact ⟨_, h⟩
  · rintro ⟨f, e⟩
    have hd := wf_endN hW t u hu
    have e1 := chn_t n (n + f) (nI u) (by omega) (by omega) hd
    have e2 := chn_t f (n + f) (nI u) (by omega) (by omega) (Or.inr e)
    have e3 := chn_t n (n + 1) (nI u) (by omega) (by omega) hd
    rw [e3, ← e1, e2, e]
/-- the foremost of those whose chain leads to t -/
theorem stnd_min (hW : WF kf n) (hR : RH kf vf n) (ht : t < n) : stnd kf vf t < n ∧ Up kf (stnd kf vf t) t ∧ ∀ u, u < n → Up kf u t → rkA kf vf (stnd kf vf t) ≤ rkA kf vf u := by
  have hn := hW.1.2
  have L : ∀ i, i ≤ n → (lp (fun u b => if rch kf t u && ahead kf vf u b then u else b) i t < n ∧ Up kf (lp (fun u b => if rch kf t u && ahead kf vf u b then u else b) i t) t) ∧ ∀ u, u < i → Up kf u t → rkA kf vf (lp (fun u b => if rch kf t u && ahead kf vf u b then u else b) i t) ≤ rkA kf vf u := by
    intro i
    induction i with
    | zero => intro _; exact ⟨⟨ht, Up.rf kf t⟩, fun u hu => absurd hu (Nat.not_lt_zero _)⟩
    | succ i ih =>
      intro hi
      obtain ⟨⟨h1, h2⟩, h3⟩ := ih (by omega)
      show (_ < n ∧ Up kf (if rch kf t i && ahead kf vf i (lp (fun u b => if rch kf t u && ahead kf vf u b then u else b) i t) then i else (lp (fun u b => if rch kf t u && ahead kf vf u b then u else b) i t)) t) ∧ ∀ u, u < i + 1 → Up kf u t → rkA kf vf (if rch kf t i && ahead kf vf i (lp (fun u b => if rch kf t u && ahead kf vf u b then u else b) i t) then i else (lp (fun u b => if rch kf t u && ahead kf vf u b then u else b) i t)) ≤ rkA kf vf u
      show ((if rch kf t i && ahead kf vf i (lp (fun u b => if rch kf t u && ahead kf vf u b then u else b) i t) then i else (lp (fun u b => if rch kf t u && ahead kf vf u b then u else b) i t)) < n ∧ _) ∧ _
      generalize lp (fun u b => if rch kf t u && ahead kf vf u b then u else b) i t = b at h1 h2 h3 ⊢
      by_cases q : (rch kf t i && ahead kf vf i b) = true
      · rw [if_pos q]
        rw [Bool.and_eq_true] at q
        have q1 := (Up.rc hW (by omega) ht).mp q.1
        have q2 := (hR.ah hn (by omega) h1).mp q.2
        refine ⟨⟨by omega, q1⟩, fun u hu hU => ?_⟩
        rcases Nat.lt_succ_iff_lt_or_eq.mp hu with z | z
        · exact Int64.le_trans (Int64.le_of_lt q2) (h3 u z hU)
        · subst z
          exact Int64.le_refl _
      · rw [if_neg q]
        refine ⟨⟨h1, h2⟩, fun u hu hU => ?_⟩
        rcases Nat.lt_succ_iff_lt_or_eq.mp hu with z | z
        · exact h3 u z hU
        · subst z
          have q1 := (Up.rc hW (by omega) ht).mpr hU
          rw [q1, Bool.true_and, Bool.not_eq_true] at q
          exact (hR.nah hn (by omega) h1).mp q
  obtain ⟨⟨h1, h2⟩, h3⟩ := L n (Nat.le_refl _)
  unfold stnd
  rw [hW.nt]
  exact ⟨h1, h2, h3⟩
/-- the edge from j is settled -/
def Ok (kf : KF) (n : Nat) (σ : Nat → Int64) (j : Nat) : Prop := ∀ h, h < n → nxt kf j = nI h → σ h ≤ σ j
def Rz (kf : KF) (vf : VF) (n : Nat) (σ : Nat → Int64) : Prop := ∀ t, t < n → σ t ≤ rkA kf vf t ∧ ∃ u, u < n ∧ Up kf u t ∧ σ t = rkA kf vf u
theorem st_end (hW : WF kf n) (hR : RH kf vf n) {σ : Nat → Int64} (hz : Rz kf vf n σ) (hO : ∀ j, j < n → Ok kf n σ j) (ht : t < n) : σ t = rkA kf vf (stnd kf vf t) := by
  obtain ⟨h1, h2, h3⟩ := stnd_min hW hR ht
  obtain ⟨-, u, hu, hU, e⟩ := hz t ht
  have a : rkA kf vf (stnd kf vf t) ≤ σ t := by
    rw [e]
    exact h3 u hu hU
  have b : σ t ≤ σ (stnd kf vf t) := Up.ind hW ht (fun u => σ t ≤ σ u) (Int64.le_refl _) (fun u a hu ha ea _ ih => Int64.le_trans ih (hO u hu a ha ea)) h1 h2
  exact Int64.le_antisymm (Int64.le_trans b (hz _ h1).1) a
/-- one step up the chain: c lends what it has to h -/
theorem st_up (hW : WF kf n) {σ : Nat → Int64} {i c h : Nat} (hc : c < n) (hh : h < n) (hz : Rz kf vf n σ) (hO : ∀ j, j < i → j ≠ c → Ok kf n σ j) (e : nxt kf c = nI h) (hg : σ c < σ h) : Rz kf vf n (vp_updL σ h (σ c)) ∧ (∀ j, j < i → j ≠ h → Ok kf n (vp_updL σ h (σ c)) j) ∧ vp_updL σ h (σ c) h = σ c ∧ vp_updL σ h (σ c) c = σ c := by
  have hn := hW.1.2
  have ne : c ≠ h := fun q => by
    rw [q] at hg
    exact Int64.lt_irrefl hg
  have u1 : vp_updL σ h (σ c) h = σ c := by simp [vp_updL]
  have u2' : ∀ j, j ≠ h → vp_updL σ h (σ c) j = σ j := fun j q => by simp [vp_updL, q]
  refine ⟨fun t ht => ?_, fun j hj q a ha ea => ?_, u1, u2' c ne⟩
  · by_cases q : t = h
    · subst q
      rw [u1]
      obtain ⟨-, u, hu, hU, e2⟩ := hz c hc
      exact ⟨Int64.le_trans (Int64.le_of_lt hg) (hz t ht).1, u, hu, Up.snoc hW hu hc ht hU e, e2⟩
    · rw [u2' t q]
      exact hz t ht
  · rw [u2' j q]
    by_cases z : a = h
    · subst z
      rw [u1]
      by_cases y : j = c
      · subst y
        exact Int64.le_refl _
      · exact Int64.le_trans (Int64.le_of_lt hg) (hO j hj y a ha ea)
    · rw [u2' a z]
      by_cases y : j = c
      · subst y
        rw [e] at ea
        exact absurd ((nI_eq (by omega) (by omega)).mp ea).symm z
      · exact hO j hj y a ha ea
end Chain
