/-! rows whose ints are known to be natural numbers; whole rows of arrays replaced; arraycopy -/
def sRI (m : Mem) (a : Nat) (f : Nat → Int32) : Mem := (gT m, gN m, gI m, gL m, gP m, va_up (aI m) a f, aL m, aP m, zz m, nn m)
def sRL (m : Mem) (a : Nat) (f : Nat → Int64) : Mem := (gT m, gN m, gI m, gL m, gP m, aI m, va_up (aL m) a f, aP m, zz m, nn m)
theorem vu_eq {α : Type} (g : Nat → α) (a : Nat) (x : α) : va_up g a x a = x := by simp [va_up]
theorem vu_ne {α : Type} (g : Nat → α) {a b : Nat} (x : α) (h : b ≠ a) : va_up g a x b = g b := by simp [va_up, h]
theorem sAI_row (m : Mem) (a i : Nat) (x : Int32) : sAI m a i x = sRI m a (upd (aI m a) i x) := by
  have h : u2 (aI m) a i x = va_up (aI m) a (upd (aI m a) i x) := by
    funext b j
    by_cases hb : b = a
    · subst hb
      by_cases hj : j = i <;> simp [u2, va_up, upd, hj]
    · simp [u2, va_up, hb]
  unfold sAI sRI
  rw [h]
theorem sAL_row (m : Mem) (a i : Nat) (x : Int64) : sAL m a i x = sRL m a (vp_updL (aL m a) i x) := by
  have h : u2 (aL m) a i x = va_up (aL m) a (vp_updL (aL m a) i x) := by
    funext b j
    by_cases hb : b = a
    · subst hb
      by_cases hj : j = i <;> simp [u2, va_up, vp_updL, hj]
    · simp [u2, va_up, hb]
  unfold sAL sRL
  rw [h]
theorem nfw : nativeFrameWords "java/lang/System" "arraycopy" 5 + 11 ≤ 27 := by decide +kernel
section Rows6
variable {G : GG} {d : Nat} {u : MI} {z0 n0 : Nat} {r : Option Value} {mF : Mem} {pc : Nat} {lv : List (Nat × Value)} {st : List Value} {m : Mem}
theorem e_ic {n : Int} (v : Int32) (hd : decode u.2.1 pc = .ok (.iconst n, 1)) (hv : Int32.ofInt n = v) (k : EvB G d u z0 n0 r mF (pc + 1) lv (.int v :: st) m) : EvB G d u z0 n0 r mF pc lv st m := e_iconst hd hv k
theorem e_iaddN {a b : Nat} (hd : decode u.2.1 pc = .ok (.iadd, 1)) (k : EvB G d u z0 n0 r mF (pc + 1) lv (.int (nI (a + b)) :: st) m) : EvB G d u z0 n0 r mF pc lv (.int (nI b) :: .int (nI a) :: st) m := e_iadd hd (by rw [nI_add]; exact k)
theorem e_isubN {a b : Nat} (hd : decode u.2.1 pc = .ok (.isub, 1)) (h : b ≤ a) (k : EvB G d u z0 n0 r mF (pc + 1) lv (.int (nI (a - b)) :: st) m) : EvB G d u z0 n0 r mF pc lv (.int (nI b) :: .int (nI a) :: st) m := e_isub hd (by rw [pk_sub h]; exact k)
theorem e_imulN {a b : Nat} (hd : decode u.2.1 pc = .ok (.imul, 1)) (k : EvB G d u z0 n0 r mF (pc + 1) lv (.int (nI (a * b)) :: st) m) : EvB G d u z0 n0 r mF pc lv (.int (nI b) :: .int (nI a) :: st) m := e_imul hd (by rw [pk_mul]; exact k)
theorem e_iinc1N {i a : Nat} {lv' : List (Nat × Value)} (j : Nat) (hd : decode u.2.1 pc = .ok (.iinc i 1, 3)) (hj : lv[j]? = some (i, .int (nI a))) (hn : i < u.2.2.1) (hlv : (i, Value.int (nI (a + 1))) :: lv.filter (fun q => !(q.1 == i) && !(q.1 + 1 == i && q.2.category == 2)) = lv') (k : EvB G d u z0 n0 r mF (pc + 3) lv' st m) : EvB G d u z0 n0 r mF pc lv st m := e_iinc j hd hj (nI_1 a) hn hlv k
theorem e_i2lN {a : Nat} (hd : decode u.2.1 pc = .ok (.i2l, 1)) (h : a < 2 ^ 31) (k : EvB G d u z0 n0 r mF (pc + 1) lv (.long (lN a) :: st) m) : EvB G d u z0 n0 r mF pc lv (.int (nI a) :: st) m := e_i2l hd (by rw [nI_l h]; exact k)
theorem e_iv {v w : Int32} (h : v = w) (k : EvB G d u z0 n0 r mF pc lv (.int w :: st) m) : EvB G d u z0 n0 r mF pc lv (.int v :: st) m := h ▸ k
theorem e_lv {v w : Int64} (h : v = w) (k : EvB G d u z0 n0 r mF pc lv (.long w :: st) m) : EvB G d u z0 n0 r mF pc lv (.long v :: st) m := h ▸ k
theorem e_mem {m' : Mem} (h : m = m') (k : EvB G d u z0 n0 r mF pc lv st m') : EvB G d u z0 n0 r mF pc lv st m := h ▸ k
theorem e_lvs {lv' : List (Nat × Value)} (h : lv = lv') (k : EvB G d u z0 n0 r mF pc lv' st m) : EvB G d u z0 n0 r mF pc lv st m := h ▸ k
/-- fewer locals, in any order -/
theorem e_sub {lv' : List (Nat × Value)} (ks : List Nat) (h : lv_pick lv ks = lv') (k : EvB G d u z0 n0 r mF pc lv' st m) : EvB G d u z0 n0 r mF pc lv st m :=
  ⟨k.1, fun p e R s q args below meth c Q F hR hQ hB h1 h2 H ls locs hr hl hL => k.2 p e R s q args below meth c Q F hR hQ hB h1 h2 H ls locs hr (lv_sub hl ks h) hL⟩
theorem e_getIv {i ci k a : Nat} (x : Int32) (hd : decode u.2.1 pc = .ok (.getfield i, 3)) (hf : FL u.1.cls i ci k) (hk : (kX ci).getD k 0 = 0) (ht : gT m a = ci + 1) (hx : gI m (20 * ci + k) a = x) (kk : EvB G d u z0 n0 r mF (pc + 3) lv (.int x :: st) m) : EvB G d u z0 n0 r mF pc lv (.ref a :: st) m := e_getI hd hf hk ht (by rw [hx]; exact kk)
theorem e_getLv {i ci k a : Nat} (x : Int64) (hd : decode u.2.1 pc = .ok (.getfield i, 3)) (hf : FL u.1.cls i ci k) (hk : (kX ci).getD k 0 = 1) (ht : gT m a = ci + 1) (hx : gL m (20 * ci + k) a = x) (kk : EvB G d u z0 n0 r mF (pc + 3) lv (.long x :: st) m) : EvB G d u z0 n0 r mF pc lv (.ref a :: st) m := e_getL hd hf hk ht (by rw [hx]; exact kk)
theorem cl_nI {j n : Nat} (h : j < n) (hn : n < 2 ^ 31) : (nI j).toNatClampNeg = j := nI_clamp (by omega)
theorem e_ialdN {a : Nat} {j : Nat} (x : Int32) (hd : decode u.2.1 pc = .ok (.iaload, 1)) (ht : gT m a = 12) (hj : j < gN m a) (hn : gN m a < 2 ^ 31) (hx : aI m a j = x) (kk : EvB G d u z0 n0 r mF (pc + 1) lv (.int x :: st) m) : EvB G d u z0 n0 r mF pc lv (.int (nI j) :: .ref a :: st) m := e_iald hd ht (vp_in_nI hj hn) (by rw [cl_nI hj hn, hx]; exact kk)
theorem e_ialdSN {a : Nat} {j : Nat} (x : Int32) (hd : decode u.2.1 pc = .ok (.iaload, 1)) (ht : gT m a = 18) (hj : j < gN m a) (hn : gN m a < 2 ^ 31) (hx : aI m a j = x) (kk : EvB G d u z0 n0 r mF (pc + 1) lv (.int x :: st) m) : EvB G d u z0 n0 r mF pc lv (.int (nI j) :: .ref a :: st) m := e_ialdS hd ht (vp_in_nI hj hn) (by rw [cl_nI hj hn, hx]; exact kk)
theorem e_baldN {a : Nat} {j : Nat} (x : Int32) (hd : decode u.2.1 pc = .ok (.baload, 1)) (ht : gT m a = 11) (hj : j < gN m a) (hn : gN m a < 2 ^ 31) (hx : aI m a j = x) (kk : EvB G d u z0 n0 r mF (pc + 1) lv (.int x :: st) m) : EvB G d u z0 n0 r mF pc lv (.int (nI j) :: .ref a :: st) m := e_bald hd ht (vp_in_nI hj hn) (by rw [cl_nI hj hn, hx]; exact kk)
theorem e_zaldN {a : Nat} {j : Nat} (x : Int32) (hd : decode u.2.1 pc = .ok (.baload, 1)) (ht : gT m a = 15) (hj : j < gN m a) (hn : gN m a < 2 ^ 31) (hx : aI m a j = x) (kk : EvB G d u z0 n0 r mF (pc + 1) lv (.int x :: st) m) : EvB G d u z0 n0 r mF pc lv (.int (nI j) :: .ref a :: st) m := e_zald hd ht (vp_in_nI hj hn) (by rw [cl_nI hj hn, hx]; exact kk)
theorem e_saldN {a : Nat} {j : Nat} (x : Int32) (hd : decode u.2.1 pc = .ok (.saload, 1)) (ht : gT m a = 14) (hj : j < gN m a) (hn : gN m a < 2 ^ 31) (hx : aI m a j = x) (kk : EvB G d u z0 n0 r mF (pc + 1) lv (.int x :: st) m) : EvB G d u z0 n0 r mF pc lv (.int (nI j) :: .ref a :: st) m := e_sald hd ht (vp_in_nI hj hn) (by rw [cl_nI hj hn, hx]; exact kk)
theorem e_laldN {a : Nat} {j : Nat} (x : Int64) (hd : decode u.2.1 pc = .ok (.laload, 1)) (ht : gT m a = 13) (hj : j < gN m a) (hn : gN m a < 2 ^ 31) (hx : aL m a j = x) (kk : EvB G d u z0 n0 r mF (pc + 1) lv (.long x :: st) m) : EvB G d u z0 n0 r mF pc lv (.int (nI j) :: .ref a :: st) m := e_lald hd ht (vp_in_nI hj hn) (by rw [cl_nI hj hn, hx]; exact kk)
theorem e_aaldN {a t : Nat} {j : Nat} (o : Option Nat) (hd : decode u.2.1 pc = .ok (.aaload, 1)) (ht : gT m a = t) (h1 : t = 16 ∨ t = 17) (hj : j < gN m a) (hn : gN m a < 2 ^ 31) (ho : aP m a j = o) (kk : EvB G d u z0 n0 r mF (pc + 1) lv (va_rf o :: st) m) : EvB G d u z0 n0 r mF pc lv (.int (nI j) :: .ref a :: st) m := e_aald o hd ht h1 (vp_in_nI hj hn) (by rw [cl_nI hj hn, ho]) kk
theorem e_iastN {a j : Nat} {x : Int32} (m' : Mem) (hd : decode u.2.1 pc = .ok (.iastore, 1)) (ht : gT m a = 12) (hj : j < gN m a) (hn : gN m a < 2 ^ 31) (hm : sAI m a j x = m') (kk : EvB G d u z0 n0 r mF (pc + 1) lv st m') : EvB G d u z0 n0 r mF pc lv (.int x :: .int (nI j) :: .ref a :: st) m := e_iast hd ht (vp_in_nI hj hn) (by rw [cl_nI hj hn, hm]; exact kk)
theorem e_bastN {a j : Nat} {x y : Int32} (m' : Mem) (hd : decode u.2.1 pc = .ok (.bastore, 1)) (ht : gT m a = 11) (hj : j < gN m a) (hn : gN m a < 2 ^ 31) (hx : narrow .byte (.int x) = .int y) (hm : sAI m a j y = m') (kk : EvB G d u z0 n0 r mF (pc + 1) lv st m') : EvB G d u z0 n0 r mF pc lv (.int x :: .int (nI j) :: .ref a :: st) m := e_bast hd ht (vp_in_nI hj hn) hx (by rw [cl_nI hj hn, hm]; exact kk)
theorem e_zastN {a j : Nat} {x y : Int32} (m' : Mem) (hd : decode u.2.1 pc = .ok (.bastore, 1)) (ht : gT m a = 15) (hj : j < gN m a) (hn : gN m a < 2 ^ 31) (hx : narrow .boolean (.int x) = .int y) (hm : sAI m a j y = m') (kk : EvB G d u z0 n0 r mF (pc + 1) lv st m') : EvB G d u z0 n0 r mF pc lv (.int x :: .int (nI j) :: .ref a :: st) m := e_zast hd ht (vp_in_nI hj hn) hx (by rw [cl_nI hj hn, hm]; exact kk)
theorem e_sastN {a j : Nat} {x y : Int32} (m' : Mem) (hd : decode u.2.1 pc = .ok (.sastore, 1)) (ht : gT m a = 14) (hj : j < gN m a) (hn : gN m a < 2 ^ 31) (hx : narrow .short (.int x) = .int y) (hm : sAI m a j y = m') (kk : EvB G d u z0 n0 r mF (pc + 1) lv st m') : EvB G d u z0 n0 r mF pc lv (.int x :: .int (nI j) :: .ref a :: st) m := e_sast hd ht (vp_in_nI hj hn) hx (by rw [cl_nI hj hn, hm]; exact kk)
theorem e_lastN {a j : Nat} {x : Int64} (m' : Mem) (hd : decode u.2.1 pc = .ok (.lastore, 1)) (ht : gT m a = 13) (hj : j < gN m a) (hn : gN m a < 2 ^ 31) (hm : sAL m a j x = m') (kk : EvB G d u z0 n0 r mF (pc + 1) lv st m') : EvB G d u z0 n0 r mF pc lv (.long x :: .int (nI j) :: .ref a :: st) m := e_last hd ht (vp_in_nI hj hn) (by rw [cl_nI hj hn, hm]; exact kk)
-- branches on natural numbers
theorem e_icmp_geN {a b : Nat} {off : Int} (tgt : Nat) (hd : decode u.2.1 pc = .ok (.if_icmp .ge off, 3)) (ht : (pc : Int) + off = (tgt : Int)) (ha : a < 2 ^ 31) (hb : b < 2 ^ 31) (k1 : b ≤ a → EvB G d u z0 n0 r mF tgt lv st m) (k2 : a < b → EvB G d u z0 n0 r mF (pc + 3) lv st m) : EvB G d u z0 n0 r mF pc lv (.int (nI b) :: .int (nI a) :: st) m := e_icmp_ge tgt hd ht (fun h => k1 ((nI_leI hb ha).mp h)) (fun h => k2 (by have := mt (nI_leI hb ha).mpr h; omega))
theorem e_icmp_gtN {a b : Nat} {off : Int} (tgt : Nat) (hd : decode u.2.1 pc = .ok (.if_icmp .gt off, 3)) (ht : (pc : Int) + off = (tgt : Int)) (ha : a < 2 ^ 31) (hb : b < 2 ^ 31) (k1 : b < a → EvB G d u z0 n0 r mF tgt lv st m) (k2 : a ≤ b → EvB G d u z0 n0 r mF (pc + 3) lv st m) : EvB G d u z0 n0 r mF pc lv (.int (nI b) :: .int (nI a) :: st) m := e_icmp_gt tgt hd ht (fun h => k1 ((nI_ltI hb ha).mp h)) (fun h => k2 (by have := mt (nI_ltI hb ha).mpr h; omega))
theorem e_icmp_ltN {a b : Nat} {off : Int} (tgt : Nat) (hd : decode u.2.1 pc = .ok (.if_icmp .lt off, 3)) (ht : (pc : Int) + off = (tgt : Int)) (ha : a < 2 ^ 31) (hb : b < 2 ^ 31) (k1 : a < b → EvB G d u z0 n0 r mF tgt lv st m) (k2 : b ≤ a → EvB G d u z0 n0 r mF (pc + 3) lv st m) : EvB G d u z0 n0 r mF pc lv (.int (nI b) :: .int (nI a) :: st) m := e_icmp_lt tgt hd ht (fun h => k1 ((nI_ltI ha hb).mp h)) (fun h => k2 (by have := mt (nI_ltI ha hb).mpr h; omega))
theorem e_icmp_leN {a b : Nat} {off : Int} (tgt : Nat) (hd : decode u.2.1 pc = .ok (.if_icmp .le off, 3)) (ht : (pc : Int) + off = (tgt : Int)) (ha : a < 2 ^ 31) (hb : b < 2 ^ 31) (k1 : a ≤ b → EvB G d u z0 n0 r mF tgt lv st m) (k2 : b < a → EvB G d u z0 n0 r mF (pc + 3) lv st m) : EvB G d u z0 n0 r mF pc lv (.int (nI b) :: .int (nI a) :: st) m := e_icmp_le tgt hd ht (fun h => k1 ((nI_leI ha hb).mp h)) (fun h => k2 (by have := mt (nI_leI ha hb).mpr h; omega))
theorem e_icmp_eqN {a b : Nat} {off : Int} (tgt : Nat) (hd : decode u.2.1 pc = .ok (.if_icmp .eq off, 3)) (ht : (pc : Int) + off = (tgt : Int)) (ha : a < 2 ^ 31) (hb : b < 2 ^ 31) (k1 : a = b → EvB G d u z0 n0 r mF tgt lv st m) (k2 : ¬ a = b → EvB G d u z0 n0 r mF (pc + 3) lv st m) : EvB G d u z0 n0 r mF pc lv (.int (nI b) :: .int (nI a) :: st) m := e_icmp_eq tgt hd ht (fun h => k1 ((nI_eq ha hb).mp h)) (fun h => k2 (mt (nI_eq ha hb).mpr h))
theorem e_icmp_neN {a b : Nat} {off : Int} (tgt : Nat) (hd : decode u.2.1 pc = .ok (.if_icmp .ne off, 3)) (ht : (pc : Int) + off = (tgt : Int)) (ha : a < 2 ^ 31) (hb : b < 2 ^ 31) (k1 : ¬ a = b → EvB G d u z0 n0 r mF tgt lv st m) (k2 : a = b → EvB G d u z0 n0 r mF (pc + 3) lv st m) : EvB G d u z0 n0 r mF pc lv (.int (nI b) :: .int (nI a) :: st) m := e_icmp_ne tgt hd ht (fun h => k1 (mt (nI_eq ha hb).mpr h)) (fun h => k2 ((nI_eq ha hb).mp h))
-- System.arraycopy
theorem e_copyI {i a a0 t : Nat} {sp dp n : Nat} (hd : decode u.2.1 pc = .ok (.invokestatic i, 3)) (hl : Cond.methodLink u.1.cls i arraycopyName ∈ lw_g) (hnat : Cond.native arraycopyName ∈ lw_g) (hsta : Cond.static arraycopyName ∈ lw_g) (hini : Cond.initialized "java/lang/System" ∈ lw_g) (ht0 : gT m a0 = t) (ht1 : gT m a = t) (h1 : t = 11 ∨ t = 12 ∨ t = 14 ∨ t = 15)
    (hs : sp + n ≤ gN m a0) (hdn : dp + n ≤ gN m a) (hb0 : gN m a0 < 2 ^ 31) (hb1 : gN m a < 2 ^ 31) (hfit : ∀ j, j < n → fits (tyA t) (.int (aI m a0 (sp + j))) = true) (hw : (st.map fun v => v.category).sum ≤ 8)
    (kk : EvB G d u z0 n0 r mF (pc + 3) lv st (sRI m a (va_cpy (aI m a0) (aI m a) sp dp n))) : EvB G d u z0 n0 r mF pc lv (.int (nI n) :: .int (nI dp) :: .ref a :: .int (nI sp) :: .ref a0 :: st) m := by
  refine ⟨kk.1, fun p e R s q args below meth c Q F hR hQ hB g1 g2 H ls locs hr hls hL => ?_⟩
  have hts := F.2.2.2.2.2.2.2.1
  have K := F.2.2.2.2.2.2.2.2
  obtain ⟨hR1, hR2, -, -⟩ := id hR
  intro T hT X
  have hc0 : H[a0]? = some (vp_cell (G.2.2.2 t) (gN m a0, .inl (aI m a0))) := hr.at (cO_int ht0 h1)
  have hc1 : H[a]? = some (vp_cell (G.2.2.2 t) (gN m a, .inl (aI m a))) := hr.at (cO_int ht1 h1)
  have hA := (TY_at K (t := t) ⟨by omega, by omega⟩).1
  obtain ⟨-, k0, hk0, cm0, hkk0⟩ := hA (gN m a0) (fun j => .int (aI m a0 j))
  obtain ⟨-, k1, hk1, cm1, hkk1⟩ := hA (gN m a) (fun j => .int (aI m a j))
  have hprim : refKind (tyA t) = false := by rcases h1 with rfl | rfl | rfl | rfl <;> rfl
  obtain ⟨vm', X', step⟩ := X.arraycopy F.1 F.2.2.2.2.2.1 (hts _ hl) (hts _ hnat) (hts _ hsta) (hts _ hini) (src := a0) (dst := a) (cs := vp_cell (G.2.2.2 t) (gN m a0, .inl (aI m a0))) (cd := vp_cell (G.2.2.2 t) (gN m a, .inl (aI m a))) (srcPos := nI sp) (destPos := nI dp) (n := nI n) (by rw [hT]; exact hc0) (by rw [hT]; exact hc1)
    (fun _ h => by cases h) (fun _ h => by cases h) (fun h => by cases h) (fun h => by cases h) hk0 hk1 hkk0 hkk1 (by simp [hprim]) (nI_pos (by omega)) (nI_pos (by omega)) (nI_pos (by omega))
    (by rw [nI_toInt (by omega), nI_toInt (by omega)]; show ¬ _ > ((arrV _ (gN m a0) (fun j => .int (aI m a0 j))).slots.size : Int); rw [arrV_size]; omega)
    (by rw [nI_toInt (by omega), nI_toInt (by omega)]; show ¬ _ > ((arrV _ (gN m a) (fun j => .int (aI m a j))).slots.size : Int); rw [arrV_size]; omega)
    (fun vm₁ _ j hj => by
      rw [nI_clamp (by omega)] at hj
      have e : (vp_cell (G.2.2.2 t) (gN m a0, .inl (aI m a0))).slots.getD ((nI sp).toNatClampNeg + j) .null = .int (aI m a0 (sp + j)) := by
        show (arrV _ (gN m a0) (fun j => .int (aI m a0 j))).slots.getD _ _ = _
        rw [nI_clamp (by omega), Array.getD_eq_getD_getElem?, arrV_read _ _ (by omega)]
        rfl
      rw [e]
      exact ⟨hfit j hj, trivial⟩)
    (g := F0 q pc ls (.int (nI n) :: .int (nI dp) :: .ref a :: .int (nI sp) :: .ref a0 :: st)) rfl (by rw [F.2.2.2.1]; exact hls.1) (rest := st) rfl (by rw [F.2.1]; exact hd) (by omega) (by show 2 * 0 + _ + (nativeFrameWords "java/lang/System" "arraycopy" 5 + 11) ≤ _; have := nfw; omega)
  have e1 : copied (vp_cell (G.2.2.2 t) (gN m a0, .inl (aI m a0))) (vp_cell (G.2.2.2 t) (gN m a, .inl (aI m a))) (nI sp) (nI dp) (nI n) = vp_cell (G.2.2.2 t) (gN m a, .inl (va_cpy (aI m a0) (aI m a) sp dp n)) := by
    have := va_copied (fun z => Value.int z) (G.2.2.2 t) (G.2.2.2 t) (n1 := gN m a) (sp := sp) (dp := dp) (n := n) (aI m a0) (aI m a) hs
    unfold copied
    rw [nI_clamp (by omega), nI_clamp (by omega), nI_clamp (by omega)]
    exact this
  rw [e1] at X' step
  have hl' : a < H.size := (Array.getElem?_eq_some_iff.mp hc1).1
  have hrow : aI (sRI m a (va_cpy (aI m a0) (aI m a) sp dp n)) a = va_cpy (aI m a0) (aI m a) sp dp n := vu_eq _ _ _
  have hr1 : Rep G (sRI m a (va_cpy (aI m a0) (aI m a) sp dp n)) (H.setIfInBounds a (vp_cell (G.2.2.2 t) (gN m a, .inl (va_cpy (aI m a0) (aI m a) sp dp n)))) := by
    refine hr.set rfl rfl (a := a) (fun b hb => cO_oth rfl rfl (fun f => ⟨rfl, rfl, rfl⟩) (vu_ne _ _ hb) rfl rfl) (cO_int (m := sRI m a (va_cpy (aI m a0) (aI m a) sp dp n)) ht1 h1) ?_ (by simp) (fun q hq => by simp [Array.getElem?_setIfInBounds, Ne.symm hq])
    show (H.setIfInBounds a _)[a]? = some (vp_cell _ (gN m a, .inl (aI (sRI m a (va_cpy (aI m a0) (aI m a) sp dp n)) a)))
    rw [hrow]
    simp [Array.getElem?_setIfInBounds, hl']
  have w : ∀ locs1 : List Loc, (∀ x ∈ locs1, G.2.2.1 ≤ x.base) → _ := fun locs1 hL1 => kk.2 p e R s q args below meth c Q F hR hQ hB g1 g2 _ ls locs1 hr1 hls hL1
  have hheap : ((T.setVm vm').setCell a (vp_cell (G.2.2.2 t) (gN m a, .inl (va_cpy (aI m a0) (aI m a) sp dp n)))).heap = H.setIfInBounds a (vp_cell (G.2.2.2 t) (gN m a, .inl (va_cpy (aI m a0) (aI m a) sp dp n))) := by rw [← hT]; rfl
  obtain ⟨t', a1, b1⟩ := w _ (fun x hx => by
    rcases List.mem_append.mp hx with h | h
    · exact hL x h
    · obtain ⟨z, -, hz⟩ := List.mem_map.mp h
      rw [← hz]
      exact hr.2.2 a (by rw [ht1]; omega) (by rw [ht1]; omega)) _ hheap X'
  exact ⟨t', step t' a1, b1⟩
theorem e_copyL {i a a0 : Nat} {sp dp n : Nat} (hd : decode u.2.1 pc = .ok (.invokestatic i, 3)) (hl : Cond.methodLink u.1.cls i arraycopyName ∈ lw_g) (hnat : Cond.native arraycopyName ∈ lw_g) (hsta : Cond.static arraycopyName ∈ lw_g) (hini : Cond.initialized "java/lang/System" ∈ lw_g) (ht0 : gT m a0 = 13) (ht1 : gT m a = 13)
    (hs : sp + n ≤ gN m a0) (hdn : dp + n ≤ gN m a) (hb0 : gN m a0 < 2 ^ 31) (hb1 : gN m a < 2 ^ 31) (hw : (st.map fun v => v.category).sum ≤ 8)
    (kk : EvB G d u z0 n0 r mF (pc + 3) lv st (sRL m a (va_cpy (aL m a0) (aL m a) sp dp n))) : EvB G d u z0 n0 r mF pc lv (.int (nI n) :: .int (nI dp) :: .ref a :: .int (nI sp) :: .ref a0 :: st) m := by
  refine ⟨kk.1, fun p e R s q args below meth c Q F hR hQ hB g1 g2 H ls locs hr hls hL => ?_⟩
  have hts := F.2.2.2.2.2.2.2.1
  have K := F.2.2.2.2.2.2.2.2
  obtain ⟨hR1, hR2, -, -⟩ := id hR
  intro T hT X
  have hc0 : H[a0]? = some (vp_cell (G.2.2.2 13) (gN m a0, .inr (.inl (aL m a0)))) := hr.at (cO_lng ht0)
  have hc1 : H[a]? = some (vp_cell (G.2.2.2 13) (gN m a, .inr (.inl (aL m a)))) := hr.at (cO_lng ht1)
  have hA := (TY_at K (t := 13) ⟨by decide, by decide⟩).1
  obtain ⟨-, k0, hk0, cm0, hkk0⟩ := hA (gN m a0) (fun j => .long (aL m a0 j))
  obtain ⟨-, k1, hk1, cm1, hkk1⟩ := hA (gN m a) (fun j => .long (aL m a j))
  have hprim : refKind (tyA 13) = false := rfl
  obtain ⟨vm', X', step⟩ := X.arraycopy F.1 F.2.2.2.2.2.1 (hts _ hl) (hts _ hnat) (hts _ hsta) (hts _ hini) (src := a0) (dst := a) (cs := vp_cell (G.2.2.2 13) (gN m a0, .inr (.inl (aL m a0)))) (cd := vp_cell (G.2.2.2 13) (gN m a, .inr (.inl (aL m a)))) (srcPos := nI sp) (destPos := nI dp) (n := nI n) (by rw [hT]; exact hc0) (by rw [hT]; exact hc1)
    (fun _ h => by cases h) (fun _ h => by cases h) (fun h => by cases h) (fun h => by cases h) hk0 hk1 hkk0 hkk1 (by simp [hprim]) (nI_pos (by omega)) (nI_pos (by omega)) (nI_pos (by omega))
    (by rw [nI_toInt (by omega), nI_toInt (by omega)]; show ¬ _ > ((arrV _ (gN m a0) (fun j => .long (aL m a0 j))).slots.size : Int); rw [arrV_size]; omega)
    (by rw [nI_toInt (by omega), nI_toInt (by omega)]; show ¬ _ > ((arrV _ (gN m a) (fun j => .long (aL m a j))).slots.size : Int); rw [arrV_size]; omega)
    (fun vm₁ _ j hj => by
      rw [nI_clamp (by omega)] at hj
      have e : (vp_cell (G.2.2.2 13) (gN m a0, .inr (.inl (aL m a0)))).slots.getD ((nI sp).toNatClampNeg + j) .null = .long (aL m a0 (sp + j)) := by
        show (arrV _ (gN m a0) (fun j => .long (aL m a0 j))).slots.getD _ _ = _
        rw [nI_clamp (by omega), Array.getD_eq_getD_getElem?, arrV_read _ _ (by omega)]
        rfl
      rw [e]
      exact ⟨rfl, trivial⟩)
    (g := F0 q pc ls (.int (nI n) :: .int (nI dp) :: .ref a :: .int (nI sp) :: .ref a0 :: st)) rfl (by rw [F.2.2.2.1]; exact hls.1) (rest := st) rfl (by rw [F.2.1]; exact hd) (by omega) (by show 2 * 0 + _ + (nativeFrameWords "java/lang/System" "arraycopy" 5 + 11) ≤ _; have := nfw; omega)
  have e1 : copied (vp_cell (G.2.2.2 13) (gN m a0, .inr (.inl (aL m a0)))) (vp_cell (G.2.2.2 13) (gN m a, .inr (.inl (aL m a)))) (nI sp) (nI dp) (nI n) = vp_cell (G.2.2.2 13) (gN m a, .inr (.inl (va_cpy (aL m a0) (aL m a) sp dp n))) := by
    have := va_copied (fun z => Value.long z) (G.2.2.2 13) (G.2.2.2 13) (n1 := gN m a) (sp := sp) (dp := dp) (n := n) (aL m a0) (aL m a) hs
    unfold copied
    rw [nI_clamp (by omega), nI_clamp (by omega), nI_clamp (by omega)]
    exact this
  rw [e1] at X' step
  have hl' : a < H.size := (Array.getElem?_eq_some_iff.mp hc1).1
  have hrow : aL (sRL m a (va_cpy (aL m a0) (aL m a) sp dp n)) a = va_cpy (aL m a0) (aL m a) sp dp n := vu_eq _ _ _
  have hr1 : Rep G (sRL m a (va_cpy (aL m a0) (aL m a) sp dp n)) (H.setIfInBounds a (vp_cell (G.2.2.2 13) (gN m a, .inr (.inl (va_cpy (aL m a0) (aL m a) sp dp n))))) := by
    refine hr.set rfl rfl (a := a) (fun b hb => cO_oth rfl rfl (fun f => ⟨rfl, rfl, rfl⟩) rfl (vu_ne _ _ hb) rfl) (cO_lng (m := sRL m a (va_cpy (aL m a0) (aL m a) sp dp n)) ht1) ?_ (by simp) (fun q hq => by simp [Array.getElem?_setIfInBounds, Ne.symm hq])
    show (H.setIfInBounds a _)[a]? = some (vp_cell _ (gN m a, .inr (.inl (aL (sRL m a (va_cpy (aL m a0) (aL m a) sp dp n)) a))))
    rw [hrow]
    simp [Array.getElem?_setIfInBounds, hl']
  have w : ∀ locs1 : List Loc, (∀ x ∈ locs1, G.2.2.1 ≤ x.base) → _ := fun locs1 hL1 => kk.2 p e R s q args below meth c Q F hR hQ hB g1 g2 _ ls locs1 hr1 hls hL1
  have hheap : ((T.setVm vm').setCell a (vp_cell (G.2.2.2 13) (gN m a, .inr (.inl (va_cpy (aL m a0) (aL m a) sp dp n))))).heap = H.setIfInBounds a (vp_cell (G.2.2.2 13) (gN m a, .inr (.inl (va_cpy (aL m a0) (aL m a) sp dp n)))) := by rw [← hT]; rfl
  obtain ⟨t', a1, b1⟩ := w _ (fun x hx => by
    rcases List.mem_append.mp hx with h | h
    · exact hL x h
    · obtain ⟨z, -, hz⟩ := List.mem_map.mp h
      rw [← hz]
      exact hr.2.2 a (by rw [ht1]; omega) (by rw [ht1]; omega)) _ hheap X'
  exact ⟨t', step t' a1, b1⟩
end Rows6
