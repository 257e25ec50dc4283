/-! the words of the tables that hold on in every state that the machine comes to -/
def okW (w : Cond) : Bool := goodWord w || (match w with | .fieldLinkNest _ _ _ _ _ _ => true | .methodLinkNest _ _ _ _ => true | .arrayOver (.object _) => true | _ => false)
def lw_g : List Cond := lw_tbl.filter okW
theorem lw_g_sub : ∀ w ∈ lw_g, w ∈ lw_tbl := fun _ h => (List.mem_filter.mp h).1
/-! the memory as plain functions: kind and length of each cell, fields by (field number, address), elements by (address, place), next address, elements so far -/
abbrev Mem : Type := (Nat → Nat) × (Nat → Nat) × (Nat → Nat → Int32) × (Nat → Nat → Int64) × (Nat → Nat → Option Nat) × (Nat → Nat → Int32) × (Nat → Nat → Int64) × (Nat → Nat → Option Nat) × Nat × Nat
def u2 {α : Type} (g : Nat → Nat → α) (f a : Nat) (x : α) : Nat → Nat → α := fun f' a' => if f' = f then (if a' = a then x else g f' a') else g f' a'
def gT (m : Mem) : Nat → Nat := m.1
def gN (m : Mem) : Nat → Nat := m.2.1
def gI (m : Mem) : Nat → Nat → Int32 := m.2.2.1
def gL (m : Mem) : Nat → Nat → Int64 := m.2.2.2.1
def gP (m : Mem) : Nat → Nat → Option Nat := m.2.2.2.2.1
def aI (m : Mem) : Nat → Nat → Int32 := m.2.2.2.2.2.1
def aL (m : Mem) : Nat → Nat → Int64 := m.2.2.2.2.2.2.1
def aP (m : Mem) : Nat → Nat → Option Nat := m.2.2.2.2.2.2.2.1
def zz (m : Mem) : Nat := m.2.2.2.2.2.2.2.2.1
def nn (m : Mem) : Nat := m.2.2.2.2.2.2.2.2.2
def sI (m : Mem) (f a : Nat) (x : Int32) : Mem := (gT m, gN m, u2 (gI m) f a x, gL m, gP m, aI m, aL m, aP m, zz m, nn m)
def sL (m : Mem) (f a : Nat) (x : Int64) : Mem := (gT m, gN m, gI m, u2 (gL m) f a x, gP m, aI m, aL m, aP m, zz m, nn m)
def sP (m : Mem) (f a : Nat) (x : Option Nat) : Mem := (gT m, gN m, gI m, gL m, u2 (gP m) f a x, aI m, aL m, aP m, zz m, nn m)
def sAI (m : Mem) (a i : Nat) (x : Int32) : Mem := (gT m, gN m, gI m, gL m, gP m, u2 (aI m) a i x, aL m, aP m, zz m, nn m)
def sAL (m : Mem) (a i : Nat) (x : Int64) : Mem := (gT m, gN m, gI m, gL m, gP m, aI m, u2 (aL m) a i x, aP m, zz m, nn m)
def sAP (m : Mem) (a i : Nat) (x : Option Nat) : Mem := (gT m, gN m, gI m, gL m, gP m, aI m, aL m, u2 (aP m) a i x, zz m, nn m)
def z2 {α : Type} (g : Nat → Nat → α) (z : Nat) (x : α) : Nat → Nat → α := fun f a => if a = z then x else g f a
def zr {α : Type} (g : Nat → Nat → α) (z : Nat) (x : α) : Nat → Nat → α := fun a i => if a = z then x else g a i
/-- a new cell of kind t with n places, all zero -/
def nw (m : Mem) (t n : Nat) : Mem := (va_up (gT m) (zz m) t, va_up (gN m) (zz m) n, z2 (gI m) (zz m) 0, z2 (gL m) (zz m) 0, z2 (gP m) (zz m) none, zr (aI m) (zz m) 0, zr (aL m) (zz m) 0, zr (aP m) (zz m) none, zz m + 1, nn m + n)
/-- the kinds of the fields: 0 int, 1 long, 2 reference -/
def kX : Nat → List Nat
  | 0 => [2, 2, 2, 2, 2, 2, 2, 0, 0, 0, 0, 0]
  | 1 => [0, 2]
  | 2 => [0, 2]
  | 3 => [0, 2]
  | 4 => [0, 0, 0, 0, 1, 0, 0, 0, 0, 0, 0, 0, 0, 0, 0, 0, 0, 2, 1]
  | 5 => [2, 2, 2, 2, 2, 0, 0]
  | 6 => [2, 2, 2, 2, 0, 0, 0, 2]
  | _ => []
def tyC : Nat → Nat → FieldType
  | 0 => tyX0
  | 1 => tyX1
  | 2 => tyX2
  | 3 => tyX3
  | 4 => tyX4
  | 5 => tyX5
  | _ => tyX6
def fV (m : Mem) (ci k a : Nat) : Nat → Value
  | 0 => .int (gI m (20 * ci + k) a)
  | 1 => .long (gL m (20 * ci + k) a)
  | _ => va_rf (gP m (20 * ci + k) a)
def fO (m : Mem) (ci a : Nat) : List Value := (List.range (kX ci).length).map (fun k => fV m ci k a ((kX ci).getD k 0))
abbrev GG : Type := Launch × va_G × Nat × (Nat → ClassId)
def cO (G : GG) (m : Mem) (a : Nat) : Option va_E :=
  if gT m a = 0 then none else if gT m a ≤ 7 then some (.inr (gT m a - 1, fO m (gT m a - 1) a))
  else if gT m a = 13 then some (.inl (G.2.2.2 13, gN m a, .inr (.inl (aL m a))))
  else if gT m a = 16 ∨ gT m a = 17 then some (.inl (G.2.2.2 (gT m a), gN m a, .inr (.inr (.inr (.inr (aP m a))))))
  else if gT m a = 18 then some (.inl (G.2.2.2 12, gN m a, .inl (aI m a)))
  else some (.inl (G.2.2.2 (gT m a), gN m a, .inl (aI m a)))
/-- the script's cell: an array of ints, of which no more is known -/
def SC8 (G : GG) (q : Nat × va_E) (H : Heap) : Prop := match q.2 with
  | .inl a => ∃ scr : Cell, H[q.1]? = some scr ∧ scr.cls = G.2.2.2 18 ∧ (∀ k, scr.vm ≠ .statics k) ∧ scr.vm ≠ .unknown ∧ scr.slots.size = a.2.1 ∧ (match a.2.2 with | .inl f => ∀ j : Nat, j < a.2.1 → scr.slots[j]? = some (.int (f j)) | _ => True)
  | .inr _ => False
def at8 (G : GG) (t : Nat) (q : Nat × va_E) (H : Heap) : Prop := if t = 18 then SC8 G q H else va_at G.2.1 vwCl q H
theorem SC8.kept {G : GG} {q : Nat × va_E} {H H1 : Heap} (h : SC8 G q H) (hq : H1[q.1]? = H[q.1]?) : SC8 G q H1 := by
  unfold SC8 at h ⊢
  split at h
  · rw [hq]
    exact h
  · exact h
theorem SC8.lt {G : GG} {q : Nat × va_E} {H : Heap} (h : SC8 G q H) : q.1 < H.size := by
  unfold SC8 at h
  split at h
  · obtain ⟨scr, h1, -⟩ := h
    exact (Array.getElem?_eq_some_iff.mp h1).1
  · exact h.elim
theorem at8.kept {G : GG} {t : Nat} {q : Nat × va_E} {H H1 : Heap} (h : at8 G t q H) (hq : H1[q.1]? = H[q.1]?) : at8 G t q H1 := by
  unfold at8 at h ⊢
  split
  · rename_i e
    rw [if_pos e] at h
    exact h.kept hq
  · rename_i e
    rw [if_neg e] at h
    exact h.kept hq
theorem at8.lt {G : GG} {t : Nat} {q : Nat × va_E} {H : Heap} (h : at8 G t q H) : q.1 < H.size := by
  unfold at8 at h
  split at h
  · exact h.lt
  · exact h.lt
theorem at8.of {G : GG} {t : Nat} {q : Nat × va_E} {H : Heap} (h : va_at G.2.1 vwCl q H) (ht : t ≠ 18) : at8 G t q H := by
  unfold at8
  rw [if_neg ht]
  exact h
def Rep (G : GG) (m : Mem) (H : Heap) : Prop := H.size = zz m ∧ (∀ (a : Nat) (x : va_E), cO G m a = some x → at8 G (gT m a) (a, x) H) ∧ ∀ a : Nat, gT m a ≠ 0 → gT m a ≠ 18 → G.2.2.1 ≤ a
def tyA : Nat → FieldType
  | 11 => .byte
  | 12 => .int
  | 13 => .long
  | 14 => .short
  | 15 => .boolean
  | 16 => .object RX2
  | _ => .object RX4
def TY (G : GG) : List (ClassId × FieldType) := [(G.2.2.2 11, .byte), (G.2.2.2 12, .int), (G.2.2.2 13, .long), (G.2.2.2 14, .short), (G.2.2.2 15, .boolean), (G.2.2.2 16, .object RX2), (G.2.2.2 17, .object RX4)]
def KK (G : GG) (U : State) : Prop := va_K G.2.1 vwCl (TY G) U ∧ ArrOfT U (G.2.2.2 18) .int
theorem KK.moved {G : GG} {u U : State} (hvm : u.vm.Alike U.vm) (h : KK G u) : KK G U := ⟨va_K.moved hvm h.1, arrOfT_moved hvm h.2⟩
-- plain rows of the memory
theorem u2_eq {α : Type} (g : Nat → Nat → α) (f a : Nat) (x : α) : u2 g f a x f a = x := by simp [u2]
theorem u2_nf {α : Type} (g : Nat → Nat → α) {f a f' a' : Nat} (x : α) (h : f' ≠ f) : u2 g f a x f' a' = g f' a' := by simp [u2, h]
theorem u2_na {α : Type} (g : Nat → Nat → α) {f a f' a' : Nat} (x : α) (h : a' ≠ a) : u2 g f a x f' a' = g f' a' := by simp [u2, h]
theorem fO_len (m : Mem) (ci a : Nat) : (fO m ci a).length = (kX ci).length := by simp [fO]
theorem fO_get (m : Mem) (ci a : Nat) {k : Nat} (hk : k < (kX ci).length) : (fO m ci a)[k]? = some (fV m ci k a ((kX ci).getD k 0)) := by
  simp [fO, hk]
theorem fV_oth {m m' : Mem} {ci k a w : Nat} (h1 : gI m' (20 * ci + k) a = gI m (20 * ci + k) a) (h2 : gL m' (20 * ci + k) a = gL m (20 * ci + k) a) (h3 : gP m' (20 * ci + k) a = gP m (20 * ci + k) a) : fV m' ci k a w = fV m ci k a w := by
  match w with
  | 0 => simp [fV, h1]
  | 1 => simp [fV, h2]
  | n + 2 => simp [fV, h3]
theorem fO_oth {m m' : Mem} {ci a : Nat} (h : ∀ f, gI m' f a = gI m f a ∧ gL m' f a = gL m f a ∧ gP m' f a = gP m f a) : fO m' ci a = fO m ci a := by
  unfold fO
  exact List.map_congr_left (fun k _ => fV_oth (h _).1 (h _).2.1 (h _).2.2)
theorem fO_set {m m' : Mem} {ci a k : Nat} {v : Value} (hk : k < (kX ci).length) (hv : fV m' ci k a ((kX ci).getD k 0) = v)
    (h : ∀ f, f ≠ 20 * ci + k → gI m' f a = gI m f a ∧ gL m' f a = gL m f a ∧ gP m' f a = gP m f a) : fO m' ci a = (fO m ci a).set k v := by
  apply List.ext_getElem?
  intro j
  rw [List.getElem?_set]
  by_cases hj : k = j
  · subst hj
    rw [if_pos rfl, if_pos (by rw [fO_len]; exact hk), fO_get m' ci a hk, hv]
  · rw [if_neg hj]
    by_cases hl : j < (kX ci).length
    · rw [fO_get m' ci a hl, fO_get m ci a hl]
      have q := h (20 * ci + j) (by omega)
      rw [fV_oth q.1 q.2.1 q.2.2]
    · rw [List.getElem?_eq_none (by rw [fO_len]; omega), List.getElem?_eq_none (by rw [fO_len]; omega)]
theorem cO_oth {G : GG} {m m' : Mem} {a : Nat} (ht : gT m' a = gT m a) (hn : gN m' a = gN m a) (h : ∀ f, gI m' f a = gI m f a ∧ gL m' f a = gL m f a ∧ gP m' f a = gP m f a) (h1 : aI m' a = aI m a) (h2 : aL m' a = aL m a) (h3 : aP m' a = aP m a) : cO G m' a = cO G m a := by
  unfold cO
  rw [ht, hn, fO_oth h, h1, h2, h3]
theorem cO_obj {G : GG} {m : Mem} {a ci : Nat} (h : gT m a = ci + 1) (hc : ci < 7) : cO G m a = some (.inr (ci, fO m ci a)) := by
  unfold cO
  rw [h, if_neg (by omega), if_pos (by omega)]
  rfl
theorem cO_int {G : GG} {m : Mem} {a t : Nat} (h : gT m a = t) (ht : t = 11 ∨ t = 12 ∨ t = 14 ∨ t = 15) : cO G m a = some (.inl (G.2.2.2 t, gN m a, .inl (aI m a))) := by
  unfold cO
  rw [h]
  rcases ht with rfl | rfl | rfl | rfl <;> simp
theorem cO_scr {G : GG} {m : Mem} {a : Nat} (h : gT m a = 18) : cO G m a = some (.inl (G.2.2.2 12, gN m a, .inl (aI m a))) := by
  unfold cO
  rw [h]
  simp
theorem cO_lng {G : GG} {m : Mem} {a : Nat} (h : gT m a = 13) : cO G m a = some (.inl (G.2.2.2 13, gN m a, .inr (.inl (aL m a)))) := by
  unfold cO
  rw [h]
  simp
theorem cO_ref {G : GG} {m : Mem} {a t : Nat} (h : gT m a = t) (ht : t = 16 ∨ t = 17) : cO G m a = some (.inl (G.2.2.2 t, gN m a, .inr (.inr (.inr (.inr (aP m a)))))) := by
  unfold cO
  rw [h]
  rcases ht with rfl | rfl <;> simp
/-- one cell is written, the others stay -/
theorem Rep.set {G : GG} {m m' : Mem} {H H1 : Heap} {a : Nat} {x : va_E} (h : Rep G m H) (hz : zz m' = zz m) (ht : gT m' = gT m) (ho : ∀ b, b ≠ a → cO G m' b = cO G m b) (ha : cO G m' a = some x) (hx : va_at G.2.1 vwCl (a, x) H1) (hs : H1.size = H.size) (hq : ∀ q : Nat, q ≠ a → H1[q]? = H[q]?) (h18 : gT m a ≠ 18 := by omega) : Rep G m' H1 := by
  refine ⟨by rw [hs, hz]; exact h.1, fun b y hb => ?_, fun b hb1 hb2 => h.2.2 b (by rw [← ht]; exact hb1) (by rw [← ht]; exact hb2)⟩
  by_cases e : b = a
  · subst e
    rw [ha] at hb
    cases hb
    exact at8.of hx (by rw [ht]; exact h18)
  · rw [ho b e] at hb
    rw [ht]
    exact (h.2.1 b y hb).kept (hq b e)
theorem Rep.lt {G : GG} {m : Mem} {H : Heap} {a : Nat} {x : va_E} (h : Rep G m H) (hx : cO G m a = some x) : a < H.size := (h.2.1 a x hx).lt
theorem Rep.at {G : GG} {m : Mem} {H : Heap} {a : Nat} {x : va_E} (h : Rep G m H) (hx : cO G m a = some x) (hn : gT m a ≠ 18 := by omega) : va_at G.2.1 vwCl (a, x) H := by
  have q := h.2.1 a x hx
  unfold at8 at q
  rw [if_neg hn] at q
  exact q
theorem Rep.scr {G : GG} {m : Mem} {H : Heap} {a : Nat} (h : Rep G m H) (ht : gT m a = 18) : ∃ scr : Cell, H[a]? = some scr ∧ scr.cls = G.2.2.2 18 ∧ (∀ k, scr.vm ≠ .statics k) ∧ scr.vm ≠ .unknown ∧ scr.slots.size = gN m a ∧ ∀ j : Nat, j < gN m a → scr.slots[j]? = some (.int (aI m a j)) := by
  have q := h.2.1 a _ (cO_scr ht)
  unfold at8 at q
  rw [if_pos ht] at q
  exact q
theorem scr_arr {G : GG} {U : State} {scr : Cell} (h : KK G U) (h1 : scr.cls = G.2.2.2 18) (h2 : ∀ k, scr.vm ≠ .statics k) : U.isArrayOf scr .int := by
  obtain ⟨-, k, hk, hc⟩ := h.2 0 (fun _ => .null)
  exact ⟨h2, k, by rw [h1]; exact hk, hc⟩
theorem nw_cO {G : GG} {m : Mem} {t n b : Nat} (hb : b ≠ zz m) : cO G (nw m t n) b = cO G m b :=
  cO_oth (by simp [nw, gT, va_up, hb]) (by simp [nw, gN, va_up, hb]) (fun f => ⟨by simp [nw, gI, z2, hb], by simp [nw, gL, z2, hb], by simp [nw, gP, z2, hb]⟩) (by funext i; simp [nw, aI, zr, hb]) (by funext i; simp [nw, aL, zr, hb]) (by funext i; simp [nw, aP, zr, hb])
/-- a cell is made -/
theorem Rep.push {G : GG} {m : Mem} {H H1 : Heap} {t n : Nat} {x : va_E} (h : Rep G m H) (hx : cO G (nw m t n) (zz m) = some x) (ha : va_at G.2.1 vwCl (zz m, x) H1) (hB : G.2.2.1 ≤ zz m) (hs : H1.size = H.size + 1) (hq : ∀ q : Nat, q < H.size → H1[q]? = H[q]?) (h18 : t ≠ 18 := by omega) : Rep G (nw m t n) H1 := by
  refine ⟨by rw [hs, h.1]; rfl, fun b y hb => ?_, fun b hb1 hb2 => ?_⟩
  · by_cases e : b = zz m
    · subst e
      rw [hx] at hb
      cases hb
      exact at8.of ha (by simp [nw, gT, va_up]; exact h18)
    · rw [nw_cO e] at hb
      have e2 : gT (nw m t n) b = gT m b := by simp [nw, gT, va_up, e]
      rw [e2]
      exact (h.2.1 b y hb).kept (hq b (h.lt hb))
  · by_cases e : b = zz m
    · subst e
      exact hB
    · have q : gT (nw m t n) b = gT m b := by simp [nw, gT, va_up, e]
      rw [q] at hb1 hb2
      exact h.2.2 b hb1 hb2
