/-! THE CLASS. A walk whose end is told by a property: EvR; a contract of that kind: EvC -/
def EvR (G : GG) (d : Nat) (u : MI) (z0 n0 : Nat) (Q : Option Value → Mem → Prop) (pc : Nat) (lv : List (Nat × Value)) (st : List Value) (m : Mem) : Prop := ∃ r mF, Q r mF ∧ EvB G d u z0 n0 r mF pc lv st m
def EvC (G : GG) (d : Nat) (u : MI) (args : List Value) (m : Mem) (Q : Option Value → Mem → Prop) : Prop := ∃ r mF, Q r mF ∧ Ev G d u args m r mF
theorem EvC.of {G : GG} {d : Nat} {u : MI} {args : List Value} {m : Mem} {Q : Option Value → Mem → Prop} (hy : plainName u.1.cls = true) (hlen : (lg_sl args).length ≤ u.2.2.1) (k : EvR G d u (zz m) (nn m) Q 0 (lv_args 0 args) [] m) : EvC G d u args m Q := by
  obtain ⟨r, mF, h, e⟩ := k
  exact ⟨r, mF, h, Ev.of hy hlen e⟩
theorem EvC.mono {G : GG} {d : Nat} {u : MI} {args : List Value} {m : Mem} {Q Q' : Option Value → Mem → Prop} (h : EvC G d u args m Q) (hq : ∀ r m', Q r m' → Q' r m') : EvC G d u args m Q' := by
  obtain ⟨r, mF, h, e⟩ := h
  exact ⟨r, mF, hq r mF h, e⟩
section RowsR
variable {G : GG} {d : Nat} {u : MI} {z0 n0 : Nat} {Q : Option Value → Mem → Prop} {pc : Nat} {lv : List (Nat × Value)} {st : List Value} {m : Mem}
theorem r_go {pc' : Nat} {lv' : List (Nat × Value)} {st' : List Value} {m' : Mem} (h : ∀ {r : Option Value} {mF : Mem}, EvB G d u z0 n0 r mF pc' lv' st' m' → EvB G d u z0 n0 r mF pc lv st m) (k : EvR G d u z0 n0 Q pc' lv' st' m') : EvR G d u z0 n0 Q pc lv st m := by
  obtain ⟨r, mF, q, e⟩ := k
  exact ⟨r, mF, q, h e⟩
theorem r_br {P1 P2 : Prop} {pc1 pc2 : Nat} {lv1 lv2 : List (Nat × Value)} {st1 st2 : List Value} {m1 m2 : Mem} (hP : P1 ∨ P2) (hN : P1 → P2 → False) (h : ∀ {r : Option Value} {mF : Mem}, (P1 → EvB G d u z0 n0 r mF pc1 lv1 st1 m1) → (P2 → EvB G d u z0 n0 r mF pc2 lv2 st2 m2) → EvB G d u z0 n0 r mF pc lv st m) (k1 : P1 → EvR G d u z0 n0 Q pc1 lv1 st1 m1) (k2 : P2 → EvR G d u z0 n0 Q pc2 lv2 st2 m2) : EvR G d u z0 n0 Q pc lv st m := by
  rcases hP with p | p
  · obtain ⟨r, mF, q, e⟩ := k1 p
    exact ⟨r, mF, q, h (fun _ => e) (fun p2 => (hN p p2).elim)⟩
  · obtain ⟨r, mF, q, e⟩ := k2 p
    exact ⟨r, mF, q, h (fun p1 => (hN p1 p).elim) (fun _ => e)⟩
theorem r_b1 {P : Prop} {pc1 pc2 : Nat} {lv1 lv2 : List (Nat × Value)} {st1 st2 : List Value} {m1 m2 : Mem} (h : ∀ {r : Option Value} {mF : Mem}, (P → EvB G d u z0 n0 r mF pc1 lv1 st1 m1) → (¬ P → EvB G d u z0 n0 r mF pc2 lv2 st2 m2) → EvB G d u z0 n0 r mF pc lv st m) (k1 : P → EvR G d u z0 n0 Q pc1 lv1 st1 m1) (k2 : ¬ P → EvR G d u z0 n0 Q pc2 lv2 st2 m2) : EvR G d u z0 n0 Q pc lv st m := r_br (Classical.em P) (fun a b => b a) h k1 k2
theorem r_b2 {P : Prop} {pc1 pc2 : Nat} {lv1 lv2 : List (Nat × Value)} {st1 st2 : List Value} {m1 m2 : Mem} (h : ∀ {r : Option Value} {mF : Mem}, (¬ P → EvB G d u z0 n0 r mF pc1 lv1 st1 m1) → (P → EvB G d u z0 n0 r mF pc2 lv2 st2 m2) → EvB G d u z0 n0 r mF pc lv st m) (k1 : ¬ P → EvR G d u z0 n0 Q pc1 lv1 st1 m1) (k2 : P → EvR G d u z0 n0 Q pc2 lv2 st2 m2) : EvR G d u z0 n0 Q pc lv st m := r_br (Classical.em P).symm (fun a b => a b) h k1 k2
theorem r_bl {a b : Nat} {pc1 pc2 : Nat} {lv1 lv2 : List (Nat × Value)} {st1 st2 : List Value} {m1 m2 : Mem} (h : ∀ {r : Option Value} {mF : Mem}, (a ≤ b → EvB G d u z0 n0 r mF pc1 lv1 st1 m1) → (b < a → EvB G d u z0 n0 r mF pc2 lv2 st2 m2) → EvB G d u z0 n0 r mF pc lv st m) (k1 : a ≤ b → EvR G d u z0 n0 Q pc1 lv1 st1 m1) (k2 : b < a → EvR G d u z0 n0 Q pc2 lv2 st2 m2) : EvR G d u z0 n0 Q pc lv st m := r_br (Nat.lt_or_ge b a).symm (fun p q => by omega) h k1 k2
theorem r_bm {a b : Nat} {pc1 pc2 : Nat} {lv1 lv2 : List (Nat × Value)} {st1 st2 : List Value} {m1 m2 : Mem} (h : ∀ {r : Option Value} {mF : Mem}, (a < b → EvB G d u z0 n0 r mF pc1 lv1 st1 m1) → (b ≤ a → EvB G d u z0 n0 r mF pc2 lv2 st2 m2) → EvB G d u z0 n0 r mF pc lv st m) (k1 : a < b → EvR G d u z0 n0 Q pc1 lv1 st1 m1) (k2 : b ≤ a → EvR G d u z0 n0 Q pc2 lv2 st2 m2) : EvR G d u z0 n0 Q pc lv st m := r_br (Nat.lt_or_ge a b) (fun p q => by omega) h k1 k2
theorem r_bb {b c : Bool} {pc1 pc2 : Nat} {lv1 lv2 : List (Nat × Value)} {st1 st2 : List Value} {m1 m2 : Mem} (h : ∀ {r : Option Value} {mF : Mem}, (b = c → EvB G d u z0 n0 r mF pc1 lv1 st1 m1) → (b = !c → EvB G d u z0 n0 r mF pc2 lv2 st2 m2) → EvB G d u z0 n0 r mF pc lv st m) (k1 : b = c → EvR G d u z0 n0 Q pc1 lv1 st1 m1) (k2 : b = !c → EvR G d u z0 n0 Q pc2 lv2 st2 m2) : EvR G d u z0 n0 Q pc lv st m := r_br (by cases b <;> cases c <;> simp) (fun p q => by rw [p] at q; cases c <;> cases q) h k1 k2
theorem r_gen (P : Mem → Prop) (h : P m) (k : ∀ m1, P m1 → EvR G d u z0 n0 Q pc lv st m1) : EvR G d u z0 n0 Q pc lv st m := k m h
theorem r_ret {r : Option Value} (q : Q r m) (e : EvB G d u z0 n0 r m pc lv st m) : EvR G d u z0 n0 Q pc lv st m := ⟨r, m, q, e⟩
theorem r_q {Q' : Option Value → Mem → Prop} (k : EvR G d u z0 n0 Q' pc lv st m) (hq : ∀ r m', Q' r m' → Q r m') : EvR G d u z0 n0 Q pc lv st m := by
  obtain ⟨r, mF, q, e⟩ := k
  exact ⟨r, mF, hq r mF q, e⟩
end RowsR
theorem plain_J7 : plainName "java/util/Arrays" = true := by decide +kernel
