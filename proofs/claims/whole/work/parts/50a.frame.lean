/-! more than one kernel: what an operation leaves alone -/
def KS (m : Mem) (Y : YY) (ρ : Nat) (kf : KF) (vf : VF) (n : Nat) : Prop := KT m Y ∧ KV m Y ρ kf vf n ∧ BYT m Y
theorem KS.q {m : Mem} {Y : YY} {ρ n : Nat} {kf : KF} {vf : VF} (h : KS m Y ρ kf vf n) : KQ (m, Y) m Y ρ kf vf n := ⟨h.1, h.2.1, FK.rf m Y h.2.2⟩
theorem KQ.ks {Z : Mem × YY} {m : Mem} {Y : YY} {ρ n : Nat} {kf : KF} {vf : VF} (h : KQ Z m Y ρ kf vf n) : KS m Y ρ kf vf n := ⟨h.1, h.2.1, h.2.2.2.2.2.2.2.1⟩
/-- only cells whose code is in S have changed, and the new ones are of S -/
def FS (S : Nat → Prop) (m : Mem) (o : Nat → Nat) (m' : Mem) (o' : Nat → Nat) : Prop := zz m ≤ zz m' ∧ (∀ a, a < zz m → o' a = o a ∧ gT m' a = gT m a ∧ gN m' a = gN m a ∧ (¬ S (o a) → Eqa m m' a)) ∧ ∀ a, zz m ≤ a → a < zz m' → S (o' a)
theorem FS.rf (S : Nat → Prop) (m : Mem) (o : Nat → Nat) : FS S m o m o := ⟨Nat.le_refl _, fun a _ => ⟨rfl, rfl, rfl, fun _ => Eqa.rf m a⟩, fun a h1 h2 => absurd h2 (Nat.not_lt.mpr h1)⟩
theorem FS.tr {S : Nat → Prop} {m m1 m2 : Mem} {o o1 o2 : Nat → Nat} (h : FS S m o m1 o1) (k : FS S m1 o1 m2 o2) : FS S m o m2 o2 := by
  refine ⟨Nat.le_trans h.1 k.1, fun a ha => ?_, fun a h1 h2 => ?_⟩
  · obtain ⟨a1, a2, a3, a4⟩ := h.2.1 a ha
    obtain ⟨b1, b2, b3, b4⟩ := k.2.1 a (Nat.lt_of_lt_of_le ha h.1)
    exact ⟨b1.trans a1, b2.trans a2, b3.trans a3, fun q => (a4 q).tr (b4 (by rw [a1]; exact q))⟩
  · rcases Nat.lt_or_ge a (zz m1) with z | z
    · rw [(k.2.1 a z).1]
      exact h.2.2 a h1 z
    · exact k.2.2 a z h2
theorem FS.up {S T : Nat → Prop} {m m' : Mem} {o o' : Nat → Nat} (h : FS S m o m' o') (k : ∀ c, S c → T c) : FS T m o m' o' := ⟨h.1, fun a ha => ⟨(h.2.1 a ha).1, (h.2.1 a ha).2.1, (h.2.1 a ha).2.2.1, fun q => (h.2.1 a ha).2.2.2 (fun z => q (k _ z))⟩, fun a h1 h2 => k _ (h.2.2 a h1 h2)⟩
theorem FK.fs {m m' : Mem} {Y Y' : YY} (h : FK (m, Y) m' Y') : FS (Ow Y.2.1) m Y.2.2.2 m' Y'.2.2.2 := ⟨h.1, fun a ha => h.2.2.1 a ha, h.2.2.2.2.2.2⟩
/-- a write to one cell -/
theorem FS.wr {S : Nat → Prop} {m m' : Mem} {o : Nat → Nat} {a : Nat} (ha : S (o a)) (hT : gT m' = gT m) (hN : gN m' = gN m) (hz : zz m' = zz m) (he : ∀ b, b ≠ a → Eqa m m' b) : FS S m o m' o := by
  refine ⟨Nat.le_of_eq hz.symm, fun b hb => ⟨rfl, by rw [hT], by rw [hN], fun q => he b (fun e => q (e ▸ ha))⟩, fun b h1 h2 => absurd h1 (by rw [hz] at h2; omega)⟩
/-- the kernel with another map of codes -/
def rY (Y : YY) (o : Nat → Nat) : YY := (Y.1, Y.2.1, Y.2.2.1, o)
theorem rY_self (Y : YY) : rY Y Y.2.2.2 = Y := rfl
section Un
variable {S : Nat → Prop} {m m' : Mem} {Y : YY} {o' : Nat → Nat}
theorem FS.at (h : FS S m Y.2.2.2 m' o') (hd : ∀ c, Ow Y.2.1 c → ¬ S c) {a c : Nat} (hc : Y.2.2.2 a = Y.2.1 + c) (hc2 : c < 1000) (ha : a < zz m) : o' a = Y.2.2.2 a ∧ gT m' a = gT m a ∧ gN m' a = gN m a ∧ Eqa m m' a := by
  obtain ⟨a1, a2, a3, a4⟩ := h.2.1 a ha
  exact ⟨a1, a2, a3, a4 (hd _ (by rw [hc]; exact ⟨Nat.le_add_right _ _, Nat.add_lt_add_left hc2 _⟩))⟩
theorem KT.un (hT : KT m Y) (h : FS S m Y.2.2.2 m' o') (hd : ∀ c, Ow Y.2.1 c → ¬ S c) : KT m' (rY Y o') := by
  have f : ∀ r, r < 273 → o' (Y.1 r) = Y.2.2.2 (Y.1 r) ∧ gT m' (Y.1 r) = gT m (Y.1 r) ∧ gN m' (Y.1 r) = gN m (Y.1 r) ∧ Eqa m m' (Y.1 r) := fun r hr => h.at hd (hT.ow hr) (by omega) (hT.1 r hr).2.2
  obtain ⟨t1, t2, t3, t4, t5, t6⟩ := hT
  refine ⟨fun r hr => ?_, ?_, ?_, fun p hp => ?_, fun t ht => ?_, ?_⟩
  · obtain ⟨a1, a2, a3, a4⟩ := f r hr
    exact ⟨a2.trans (t1 r hr).1, a1.trans (t1 r hr).2.1, Nat.lt_of_lt_of_le (t1 r hr).2.2 h.1⟩
  · show gN m' (Y.1 1) = 200 ∧ gN m' (Y.1 2) = 32 ∧ gN m' (Y.1 5) = 100 ∧ gN m' (Y.1 6) = 4 ∧ gN m' (Y.1 7) = 200 ∧ gN m' (Y.1 8) = 12
    rw [(f 1 (by omega)).2.2.1, (f 2 (by omega)).2.2.1, (f 5 (by omega)).2.2.1, (f 6 (by omega)).2.2.1, (f 7 (by omega)).2.2.1, (f 8 (by omega)).2.2.1]
    exact t2
  · show gP m' 0 (Y.1 0) = some (Y.1 1) ∧ gP m' 1 (Y.1 0) = some (Y.1 2) ∧ gP m' 2 (Y.1 0) = some (Y.1 3) ∧ gP m' 3 (Y.1 0) = some (Y.1 5) ∧ gP m' 4 (Y.1 0) = some (Y.1 6) ∧ gP m' 5 (Y.1 0) = some (Y.1 7) ∧ gP m' 6 (Y.1 0) = some (Y.1 8) ∧ gP m' 61 (Y.1 3) = some (Y.1 4)
    have e0 := (f 0 (by omega)).2.2.2.2.2.1
    rw [e0, e0, e0, e0, e0, e0, e0, (f 3 (by omega)).2.2.2.2.2.1]
    exact t3
  · show aP m' (Y.1 2) p = some (Y.1 (209 + p)) ∧ gP m' 41 (Y.1 (209 + p)) = some (Y.1 (241 + p)) ∧ LB (gN m' (Y.1 (241 + p))) (Y.2.2.1 (241 + p))
    rw [(f 2 (by omega)).2.2.2.2.2.2.2.2, (f (209 + p) (by omega)).2.2.2.2.2.1, (f (241 + p) (by omega)).2.2.1]
    exact t4 p hp
  · obtain ⟨q1, q2, q3⟩ := t5 t ht
    show aP m' (Y.1 1) t = some (Y.1 (9 + t)) ∧ gI m' 80 (Y.1 (9 + t)) = nI t ∧ SHq m' (rY Y o') t
    rw [(f 1 (by omega)).2.2.2.2.2.2.2.2, (f (9 + t) (by omega)).2.2.2.1]
    refine ⟨q1, q2, ?_⟩
    show (gP m' 97 (Y.1 (9 + t)) = none ∧ Y.2.2.1 (273 + t) = 0) ∨ (gP m' 97 (Y.1 (9 + t)) = some (Y.1 (273 + t)) ∧ Y.2.2.1 (273 + t) = 127 ∧ gT m' (Y.1 (273 + t)) = 14 ∧ gN m' (Y.1 (273 + t)) = 127 ∧ o' (Y.1 (273 + t)) = Y.2.1 + (273 + t) ∧ Y.1 (273 + t) < zz m')
    rw [(f (9 + t) (by omega)).2.2.2.2.2.1]
    rcases q3 with y | ⟨y1, y2, y3, y4, y5, y6⟩
    · exact Or.inl y
    · obtain ⟨a1, a2, a3, a4⟩ := h.at hd y5 (by omega) y6
      exact Or.inr ⟨y1, y2, a2.trans y3, a3.trans y4, a1.trans y5, Nat.lt_of_lt_of_le y6 h.1⟩
  · show LC (gN m' (Y.1 4)) (Y.2.2.1 4)
    rw [(f 4 (by omega)).2.2.1]
    exact t6
theorem KV.un {ρ n : Nat} {kf : KF} {vf : VF} (hT : KT m Y) (hV : KV m Y ρ kf vf n) (h : FS S m Y.2.2.2 m' o') (hd : ∀ c, Ow Y.2.1 c → ¬ S c) : KV m' (rY Y o') ρ kf vf n := by
  have f : ∀ r, r < 273 → o' (Y.1 r) = Y.2.2.2 (Y.1 r) ∧ gT m' (Y.1 r) = gT m (Y.1 r) ∧ gN m' (Y.1 r) = gN m (Y.1 r) ∧ Eqa m m' (Y.1 r) := fun r hr => h.at hd (hT.ow hr) (by omega) (hT.1 r hr).2.2
  obtain ⟨hk, ⟨h6, h7, h8, h5⟩, hp, ht, hr, h1, hn⟩ := hV
  have e0 := (f 0 (by omega)).2.2.2.1
  refine ⟨?_, ⟨fun i hi => ?_, fun i hi hi2 => ?_, fun i hi => ?_, fun i hi => ?_⟩, fun p hp2 => ?_, fun t ht2 => ?_, ?_, h1, hn⟩
  · show gI m' 8 (Y.1 0) = kf 0 ∧ gI m' 7 (Y.1 0) = kf 1 ∧ gI m' 9 (Y.1 0) = kf 2 ∧ gI m' 60 (Y.1 3) = kf 3 ∧ gI m' 11 (Y.1 0) = kf 4 ∧ gI m' 10 (Y.1 0) = kf 5
    rw [e0, e0, e0, e0, e0, (f 3 (by omega)).2.2.2.1]
    exact hk
  · show aI m' (Y.1 6) i = kf (7 + i)
    rw [(f 6 (by omega)).2.2.2.2.2.2.1]
    exact h6 i hi
  · show aI m' (Y.1 7) i = kf (16 + i)
    rw [(f 7 (by omega)).2.2.2.2.2.2.1]
    exact h7 i hi hi2
  · show aI m' (Y.1 8) i = kf (220 + i)
    rw [(f 8 (by omega)).2.2.2.2.2.2.1]
    exact h8 i hi
  · show aI m' (Y.1 5) i = kf (240 + i)
    rw [(f 5 (by omega)).2.2.2.2.2.2.1]
    exact h5 i hi
  · show gI m' 40 (Y.1 (209 + p)) = kf (340 + p) ∧ plen kf p ≤ gN m' (Y.1 (241 + p)) ∧ ∀ i, i < plen kf p → aI m' (Y.1 (241 + p)) i = kf (30000 + 1000 * p + i)
    rw [(f (209 + p) (by omega)).2.2.2.1, (f (241 + p) (by omega)).2.2.1, (f (241 + p) (by omega)).2.2.2.2.2.2.1]
    exact hp p hp2
  · obtain ⟨q1, q2, q3⟩ := ht t ht2
    refine ⟨fun w hw => ?_, ?_, fun h0 => ?_⟩
    · show gI m' (tf w) (Y.1 (9 + t)) = kg kf t w
      rw [(f (9 + t) (by omega)).2.2.2.1]
      exact q1 w hw
    · show gL m' 84 (Y.1 (9 + t)) = vf t
      rw [(f (9 + t) (by omega)).2.2.2.2.1]
      exact q2
    · obtain ⟨y1, y2, y3⟩ := q3 h0
      show gP m' 97 (Y.1 (9 + t)) = some (Y.1 (273 + t)) ∧ (kg kf t 14).toNatClampNeg ≤ 127 ∧ ∀ i, i < (kg kf t 14).toNatClampNeg → aI m' (Y.1 (273 + t)) i = kf (4400 + 128 * t + i)
      have hz : Y.1 (273 + t) < zz m := by
        rcases (hT.2.2.2.2.1 t (by omega)).2.2 with q | q
        · rw [q.1] at y1
          cases y1
        · exact q.2.2.2.2.2
      rw [(f (9 + t) (by omega)).2.2.2.2.2.1, (h.at hd (hT.injS (r := 0) (by omega) y1) (by omega) hz).2.2.2.2.2.2.1]
      exact ⟨y1, y2, y3⟩
  · show 5 * (kf 3).toNatClampNeg ≤ gN m' (Y.1 4) ∧ ∀ i, i < 5 * (kf 3).toNatClampNeg → aI m' (Y.1 4) i = kf (ρ + i)
    rw [(f 4 (by omega)).2.2.1, (f 4 (by omega)).2.2.2.2.2.2.1]
    exact hr
theorem BYT.un (hB : BYT m Y) (h : FS S m Y.2.2.2 m' o') (hd : ∀ c, Ow Y.2.1 c → ¬ S c) : BYT m' (rY Y o') := fun a c hlt ha h1 h2 j => by
  have ha : o' a = Y.2.1 + c := ha
  have ho : Ow Y.2.1 (o' a) := by rw [ha]; exact ⟨Nat.le_add_right _ _, by omega⟩
  rcases Nat.lt_or_ge a (zz m) with z | z
  · obtain ⟨a1, a2, a3, a4⟩ := h.2.1 a z
    rw [a1] at ha ho
    rw [(a4 (hd _ ho)).2.2.2.1]
    exact hB a c z ha h1 h2 j
  · exact absurd (h.2.2 a z hlt) (hd _ ho)
theorem KS.un {ρ n : Nat} {kf : KF} {vf : VF} (hS : KS m Y ρ kf vf n) (h : FS S m Y.2.2.2 m' o') (hd : ∀ c, Ow Y.2.1 c → ¬ S c) : KS m' (rY Y o') ρ kf vf n := ⟨hS.1.un h hd, hS.2.1.un hS.1 h hd, hS.2.2.un h hd⟩
end Un
/-! the notes -/
def LT (n g : Nat) : Prop := (n = 256 ∧ g ≤ 256) ∨ (n = 512 ∧ g ≤ 768) ∨ (n = 1024 ∧ g ≤ 1792) ∨ (n = 2048 ∧ g ≤ 3840) ∨ (n = 4000 ∧ g ≤ 7840)
/-- notes: N the object, C its cells, with codes c and c + 1; s notes nf, elements made g -/
def NS (m : Mem) (o : Nat → Nat) (c : Nat) (A : Nat × Nat × Nat) (s : Nat) (nf : Nat → Int64) : Prop :=
  (gT m A.1 = 2 ∧ o A.1 = c ∧ A.1 < zz m) ∧ (gT m A.2.1 = 13 ∧ o A.2.1 = c + 1 ∧ A.2.1 < zz m) ∧ gP m 21 A.1 = some A.2.1 ∧ gI m 20 A.1 = nI s ∧ s ≤ 1000 ∧ LT (gN m A.2.1) A.2.2 ∧ 4 * s ≤ gN m A.2.1 ∧ ∀ i, i < 4 * s → aL m A.2.1 i = nf i
theorem NS.un {S : Nat → Prop} {m m' : Mem} {o o' : Nat → Nat} {c s : Nat} {A : Nat × Nat × Nat} {nf : Nat → Int64} (h : NS m o c A s nf) (k : FS S m o m' o') (h1 : ¬ S c) (h2 : ¬ S (c + 1)) : NS m' o' c A s nf := by
  obtain ⟨⟨a1, a2, a3⟩, ⟨b1, b2, b3⟩, d1, d2, d3, d4, d5, d6⟩ := h
  obtain ⟨p1, p2, p3, p4⟩ := k.2.1 A.1 a3
  obtain ⟨q1, q2, q3, q4⟩ := k.2.1 A.2.1 b3
  have e1 := p4 (by rw [a2]; exact h1)
  have e2 := q4 (by rw [b2]; exact h2)
  refine ⟨⟨p2.trans a1, p1.trans a2, Nat.lt_of_lt_of_le a3 k.1⟩, ⟨q2.trans b1, q1.trans b2, Nat.lt_of_lt_of_le b3 k.1⟩, by rw [e1.2.2.1]; exact d1, by rw [e1.1]; exact d2, d3, by rw [q3]; exact d4, by rw [q3]; exact d5, fun i hi => by rw [e2.2.2.2.2.1]; exact d6 i hi⟩
