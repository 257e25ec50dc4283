/-! a kernel of the class in the memory. Roles: 0 the kernel, 1 its tasks' row, 2 programs' row, 3 rows, 4 cells, 5 holders, 6 chosen, 7 ringTasks, 8 ran, 9+t task t, 209+p program p, 241+p its bytes, 273+t the shorts of t -/
/-- addresses by role, first code, elements made by role, code of each address -/
abbrev YY : Type := (Nat → Nat) × Nat × (Nat → Nat) × (Nat → Nat)
def tyR (r : Nat) : Nat := if r = 0 then 1 else if r = 1 then 17 else if r = 2 then 16 else if r = 3 then 4 else if r < 9 then 12 else if r < 209 then 5 else if r < 241 then 3 else 11
def LB (n g : Nat) : Prop := (n = 32 ∧ g ≤ 32) ∨ (n = 64 ∧ g ≤ 96) ∨ (n = 128 ∧ g ≤ 224) ∨ (n = 256 ∧ g ≤ 480) ∨ (n = 512 ∧ g ≤ 992) ∨ (n = 1000 ∧ g ≤ 1992)
def LC (n g : Nat) : Prop := (n = 320 ∧ g ≤ 320) ∨ (n = 640 ∧ g ≤ 960) ∨ (n = 1280 ∧ g ≤ 2240) ∨ (n = 2560 ∧ g ≤ 4800) ∨ (n = 5120 ∧ g ≤ 9920) ∨ (n = 10240 ∧ g ≤ 20160) ∨ (n = 20480 ∧ g ≤ 40640) ∨ (n = 40000 ∧ g ≤ 80640)
def SHq (m : Mem) (Y : YY) (t : Nat) : Prop := (gP m 97 (Y.1 (9 + t)) = none ∧ Y.2.2.1 (273 + t) = 0) ∨ (gP m 97 (Y.1 (9 + t)) = some (Y.1 (273 + t)) ∧ Y.2.2.1 (273 + t) = 127 ∧ gT m (Y.1 (273 + t)) = 14 ∧ gN m (Y.1 (273 + t)) = 127 ∧ Y.2.2.2 (Y.1 (273 + t)) = Y.2.1 + (273 + t) ∧ Y.1 (273 + t) < zz m)
def KT (m : Mem) (Y : YY) : Prop :=
  (∀ r, r < 273 → gT m (Y.1 r) = tyR r ∧ Y.2.2.2 (Y.1 r) = Y.2.1 + r ∧ Y.1 r < zz m) ∧
  (gN m (Y.1 1) = 200 ∧ gN m (Y.1 2) = 32 ∧ gN m (Y.1 5) = 100 ∧ gN m (Y.1 6) = 4 ∧ gN m (Y.1 7) = 200 ∧ gN m (Y.1 8) = 12) ∧
  (gP m 0 (Y.1 0) = some (Y.1 1) ∧ gP m 1 (Y.1 0) = some (Y.1 2) ∧ gP m 2 (Y.1 0) = some (Y.1 3) ∧ gP m 3 (Y.1 0) = some (Y.1 5) ∧ gP m 4 (Y.1 0) = some (Y.1 6) ∧ gP m 5 (Y.1 0) = some (Y.1 7) ∧ gP m 6 (Y.1 0) = some (Y.1 8) ∧ gP m 61 (Y.1 3) = some (Y.1 4)) ∧
  (∀ p, p < 32 → aP m (Y.1 2) p = some (Y.1 (209 + p)) ∧ gP m 41 (Y.1 (209 + p)) = some (Y.1 (241 + p)) ∧ LB (gN m (Y.1 (241 + p))) (Y.2.2.1 (241 + p))) ∧
  (∀ t, t < 200 → aP m (Y.1 1) t = some (Y.1 (9 + t)) ∧ gI m 80 (Y.1 (9 + t)) = nI t ∧ SHq m Y t) ∧
  LC (gN m (Y.1 4)) (Y.2.2.1 4)
/-- the field of a task that holds its number w -/
def tf (w : Nat) : Nat := if w < 3 then 81 + w else 82 + w
def KV (m : Mem) (Y : YY) (ρ : Nat) (kf : KF) (vf : VF) (n : Nat) : Prop :=
  (gI m 8 (Y.1 0) = kf 0 ∧ gI m 7 (Y.1 0) = kf 1 ∧ gI m 9 (Y.1 0) = kf 2 ∧ gI m 60 (Y.1 3) = kf 3 ∧ gI m 11 (Y.1 0) = kf 4 ∧ gI m 10 (Y.1 0) = kf 5) ∧
  ((∀ i, i < 4 → aI m (Y.1 6) i = kf (7 + i)) ∧ (∀ i, i < 200 → nI i < kf 5 → aI m (Y.1 7) i = kf (16 + i)) ∧ (∀ i, i < 12 → aI m (Y.1 8) i = kf (220 + i)) ∧ ∀ l, l < 100 → aI m (Y.1 5) l = kf (240 + l)) ∧
  (∀ p, p < 32 → gI m 40 (Y.1 (209 + p)) = kf (340 + p) ∧ plen kf p ≤ gN m (Y.1 (241 + p)) ∧ ∀ i, i < plen kf p → aI m (Y.1 (241 + p)) i = kf (30000 + 1000 * p + i)) ∧
  (∀ t, t < n → (∀ w, w < 15 → gI m (tf w) (Y.1 (9 + t)) = kg kf t w) ∧ gL m 84 (Y.1 (9 + t)) = vf t ∧ (0 ≤ kg kf t 14 → gP m 97 (Y.1 (9 + t)) = some (Y.1 (273 + t)) ∧ (kg kf t 14).toNatClampNeg ≤ 127 ∧ ∀ i, i < (kg kf t 14).toNatClampNeg → aI m (Y.1 (273 + t)) i = kf (4400 + 128 * t + i))) ∧
  (5 * (kf 3).toNatClampNeg ≤ gN m (Y.1 4) ∧ ∀ i, i < 5 * (kf 3).toNatClampNeg → aI m (Y.1 4) i = kf (ρ + i)) ∧ (kf 1 = nI n ∧ n ≤ 200)
/-- an address's content is the same -/
def Eqa (m m' : Mem) (a : Nat) : Prop := (∀ f, gI m' f a = gI m f a) ∧ (∀ f, gL m' f a = gL m f a) ∧ (∀ f, gP m' f a = gP m f a) ∧ aI m' a = aI m a ∧ aL m' a = aL m a ∧ aP m' a = aP m a
theorem Eqa.rf (m : Mem) (a : Nat) : Eqa m m a := ⟨fun _ => rfl, fun _ => rfl, fun _ => rfl, rfl, rfl, rfl⟩
theorem Eqa.tr {m m' m'' : Mem} {a : Nat} (h : Eqa m m' a) (k : Eqa m' m'' a) : Eqa m m'' a := ⟨fun f => (k.1 f).trans (h.1 f), fun f => (k.2.1 f).trans (h.2.1 f), fun f => (k.2.2.1 f).trans (h.2.2.1 f), k.2.2.2.1.trans h.2.2.2.1, k.2.2.2.2.1.trans h.2.2.2.2.1, k.2.2.2.2.2.trans h.2.2.2.2.2⟩
def sumN (f : Nat → Nat) : Nat → Nat
  | 0 => 0
  | n + 1 => sumN f n + f n
def pot (g : Nat → Nat) : Nat := sumN (fun p => g (241 + p)) 32 + g 4 + sumN (fun t => g (273 + t)) 200
/-- the code c belongs to the kernel with first code b -/
def Ow (b c : Nat) : Prop := b ≤ c ∧ c < b + 1000
/-- what lies in the rows of bytes is bytes -/
def BYT (m : Mem) (Y : YY) : Prop := ∀ a c, a < zz m → Y.2.2.2 a = Y.2.1 + c → 241 ≤ c → c < 273 → ∀ j, ∃ y : Int8, aI m a j = y.toInt32
/-- from m0 to m only the kernel's own addresses, and new ones, have changed -/
def FK (Z : Mem × YY) (m : Mem) (Y : YY) : Prop :=
  zz Z.1 ≤ zz m ∧ Y.2.1 = Z.2.2.1 ∧ (∀ a, a < zz Z.1 → Y.2.2.2 a = Z.2.2.2.2 a ∧ gT m a = gT Z.1 a ∧ gN m a = gN Z.1 a ∧ (¬ Ow Z.2.2.1 (Z.2.2.2.2 a) → Eqa Z.1 m a)) ∧ nn m + pot Z.2.2.2.1 = nn Z.1 + pot Y.2.2.1 ∧ 16 * zz m + pot Z.2.2.2.1 ≤ 16 * zz Z.1 + pot Y.2.2.1 ∧ BYT m Y ∧ ∀ a, zz Z.1 ≤ a → a < zz m → Ow Z.2.2.1 (Y.2.2.2 a)
def KQ (Z : Mem × YY) (m : Mem) (Y : YY) (ρ : Nat) (kf : KF) (vf : VF) (n : Nat) : Prop := KT m Y ∧ KV m Y ρ kf vf n ∧ FK Z m Y
theorem FK.rf (m : Mem) (Y : YY) (h : BYT m Y) : FK (m, Y) m Y := ⟨Nat.le_refl _, rfl, fun a _ => ⟨rfl, rfl, rfl, fun _ => Eqa.rf m a⟩, rfl, Nat.le_refl _, h, fun a h1 h2 => absurd h2 (Nat.not_lt.mpr h1)⟩
theorem FK.own {Z : Mem × YY} {m : Mem} {Y : YY} (h : FK Z m Y) {a c : Nat} (ha : Y.2.2.2 a = Y.2.1 + c) (hc : c < 1000) (h0 : a < zz Z.1) : Ow Z.2.2.1 (Z.2.2.2.2 a) := by
  have e := (h.2.2.1 a h0).1
  rw [← e, ha, h.2.1]
  exact ⟨Nat.le_add_right _ _, Nat.add_lt_add_left hc _⟩
theorem fk_wr1 {Z : Mem × YY} {m m' : Mem} {Y : YY} {a c : Nat} (h : FK Z m Y) (ha : Y.2.2.2 a = Y.2.1 + c) (hc : c < 1000) (hT : gT m' = gT m) (hN : gN m' = gN m) (he : ∀ b, b ≠ a → Eqa m m' b) (b : Nat) (hb : b < zz Z.1) : Y.2.2.2 b = Z.2.2.2.2 b ∧ gT m' b = gT Z.1 b ∧ gN m' b = gN Z.1 b ∧ (¬ Ow Z.2.2.1 (Z.2.2.2.2 b) → Eqa Z.1 m' b) := by
  obtain ⟨q1, q2, q3, q4⟩ := h.2.2.1 b hb
  refine ⟨q1, by rw [hT]; exact q2, by rw [hN]; exact q3, fun hO => ?_⟩
  by_cases e : b = a
  · subst e
    exact absurd (h.own ha hc hb) hO
  · exact (q4 hO).tr (he b e)
/-- a write to an own address -/
theorem FK.wr {Z : Mem × YY} {m m' : Mem} {Y : YY} {a c : Nat} (h : FK Z m Y) (ha : Y.2.2.2 a = Y.2.1 + c) (hc : c < 1000 ∧ (c < 241 ∨ 273 ≤ c)) (hT : gT m' = gT m) (hN : gN m' = gN m) (hz : zz m' = zz m) (hn : nn m' = nn m) (he : ∀ b, b ≠ a → Eqa m m' b) : FK Z m' Y := by
  refine ⟨by rw [hz]; exact h.1, h.2.1, fun b hb => ?_, by rw [hn]; exact h.2.2.2.1, by rw [hz]; exact h.2.2.2.2.1, fun b k hlt hb h1 h2 j => ?_, by rw [hz]; exact h.2.2.2.2.2.2⟩
  · exact fk_wr1 h ha hc.1 hT hN he b hb
  · have e : b ≠ a := fun q => by
      rw [q, ha] at hb
      omega
    rw [(he b e).2.2.2.1]
    exact h.2.2.2.2.2.1 b k (by rw [← hz]; exact hlt) hb h1 h2 j
theorem eqa_sI {m : Mem} {f a b : Nat} {x : Int32} (h : b ≠ a) : Eqa m (sI m f a x) b := ⟨fun g => u2_na _ _ h, fun _ => rfl, fun _ => rfl, rfl, rfl, rfl⟩
theorem eqa_sL {m : Mem} {f a b : Nat} {x : Int64} (h : b ≠ a) : Eqa m (sL m f a x) b := ⟨fun _ => rfl, fun g => u2_na _ _ h, fun _ => rfl, rfl, rfl, rfl⟩
theorem eqa_sP {m : Mem} {f a b : Nat} {x : Option Nat} (h : b ≠ a) : Eqa m (sP m f a x) b := ⟨fun _ => rfl, fun _ => rfl, fun g => u2_na _ _ h, rfl, rfl, rfl⟩
theorem eqa_sAI {m : Mem} {a i b : Nat} {x : Int32} (h : b ≠ a) : Eqa m (sAI m a i x) b := ⟨fun _ => rfl, fun _ => rfl, fun _ => rfl, by funext j; exact u2_nf _ _ h, rfl, rfl⟩
theorem eqa_sAL {m : Mem} {a i b : Nat} {x : Int64} (h : b ≠ a) : Eqa m (sAL m a i x) b := ⟨fun _ => rfl, fun _ => rfl, fun _ => rfl, rfl, by funext j; exact u2_nf _ _ h, rfl⟩
theorem eqa_sRI {m : Mem} {a b : Nat} {x : Nat → Int32} (h : b ≠ a) : Eqa m (sRI m a x) b := ⟨fun _ => rfl, fun _ => rfl, fun _ => rfl, vu_ne _ _ h, rfl, rfl⟩
theorem eqa_sRL {m : Mem} {a b : Nat} {x : Nat → Int64} (h : b ≠ a) : Eqa m (sRL m a x) b := ⟨fun _ => rfl, fun _ => rfl, fun _ => rfl, rfl, vu_ne _ _ h, rfl⟩
theorem FK.sI {Z : Mem × YY} {m : Mem} {Y : YY} {a c f : Nat} {x : Int32} (h : FK Z m Y) (ha : Y.2.2.2 a = Y.2.1 + c) (hc : c < 1000 ∧ (c < 241 ∨ 273 ≤ c)) : FK Z (sI m f a x) Y := h.wr ha hc rfl rfl rfl rfl (fun _ e => eqa_sI e)
theorem FK.sL {Z : Mem × YY} {m : Mem} {Y : YY} {a c f : Nat} {x : Int64} (h : FK Z m Y) (ha : Y.2.2.2 a = Y.2.1 + c) (hc : c < 1000 ∧ (c < 241 ∨ 273 ≤ c)) : FK Z (sL m f a x) Y := h.wr ha hc rfl rfl rfl rfl (fun _ e => eqa_sL e)
theorem FK.sAI {Z : Mem × YY} {m : Mem} {Y : YY} {a c i : Nat} {x : Int32} (h : FK Z m Y) (ha : Y.2.2.2 a = Y.2.1 + c) (hc : c < 1000 ∧ (c < 241 ∨ 273 ≤ c)) : FK Z (sAI m a i x) Y := h.wr ha hc rfl rfl rfl rfl (fun _ e => eqa_sAI e)
theorem FK.sRI {Z : Mem × YY} {m : Mem} {Y : YY} {a c : Nat} {x : Nat → Int32} (h : FK Z m Y) (ha : Y.2.2.2 a = Y.2.1 + c) (hc : c < 1000 ∧ (c < 241 ∨ 273 ≤ c)) : FK Z (sRI m a x) Y := h.wr ha hc rfl rfl rfl rfl (fun _ e => eqa_sRI e)
-- the frame of a kernel
theorem KT.ow {m : Mem} {Y : YY} (h : KT m Y) {r : Nat} (hr : r < 273) : Y.2.2.2 (Y.1 r) = Y.2.1 + r := (h.1 r hr).2.1
theorem KT.inj {m : Mem} {Y : YY} (h : KT m Y) {r s : Nat} (hr : r < 273) (hs : s < 273) (e : r ≠ s) : Y.1 r ≠ Y.1 s := fun q => e (by
  have h1 := h.ow hr
  have h2 := h.ow hs
  rw [q] at h1
  omega)
theorem KT.sI {m : Mem} {Y : YY} {f a : Nat} {x : Int32} (h : KT m Y) (hf : f ≠ 80) : KT (sI m f a x) Y :=
  ⟨h.1, h.2.1, h.2.2.1, h.2.2.2.1, fun t ht => ⟨(h.2.2.2.2.1 t ht).1, (u2_nf _ _ hf.symm).trans (h.2.2.2.2.1 t ht).2.1, (h.2.2.2.2.1 t ht).2.2⟩, h.2.2.2.2.2⟩
theorem KT.sL {m : Mem} {Y : YY} {f a : Nat} {x : Int64} (h : KT m Y) : KT (sL m f a x) Y := h
theorem KT.sAI {m : Mem} {Y : YY} {a i : Nat} {x : Int32} (h : KT m Y) : KT (sAI m a i x) Y := h
theorem KT.sRI {m : Mem} {Y : YY} {a : Nat} {x : Nat → Int32} (h : KT m Y) : KT (sRI m a x) Y := h
