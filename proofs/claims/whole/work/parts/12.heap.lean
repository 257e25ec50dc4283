/-! fields: which field an entry of a class's pool names; getfield, putfield over the plain memory -/
def FL (own : String) (i ci k : Nat) : Prop := ∃ q : vw_C, vwCl[ci]? = some q ∧ k < q.2.2 ∧ (Cond.fieldLink own i (q.2.1 k).1 (q.2.1 k).2.1 (q.2.1 k).2.2.1 ∈ lw_g ∨ ∃ host : String, Cond.fieldLinkNest own i (q.2.1 k).1 (q.2.1 k).2.1 (q.2.1 k).2.2.1 host ∈ lw_g)
theorem in_X0 : ∀ w ∈ wsX00, w ∈ lw_g := by decide +kernel
theorem in_X1 : ∀ w ∈ wsX10, w ∈ lw_g := by decide +kernel
theorem in_X2 : ∀ w ∈ wsX20, w ∈ lw_g := by decide +kernel
theorem in_X3 : ∀ w ∈ wsX30, w ∈ lw_g := by decide +kernel
theorem in_X4 : ∀ w ∈ wsX40, w ∈ lw_g := by decide +kernel
theorem in_X5 : ∀ w ∈ wsX50, w ∈ lw_g := by decide +kernel
theorem in_X6 : ∀ w ∈ wsX60, w ∈ lw_g := by decide +kernel
theorem cls_ok {ci : Nat} {q : vw_C} (h : vwCl[ci]? = some q) : (∀ w ∈ u_ws q.1 q.2.1 q.2.2, w ∈ lw_g) ∧ (∀ k, k < q.2.2 → parseFieldDescriptor (q.2.1 k).2.2.1 = some (tyC ci k)) ∧ (∀ a, a < q.2.2 → ∀ b, b < q.2.2 → a ≠ b → (q.2.1 a).2.1 ≠ (q.2.1 b).2.1) ∧ q.2.2 = (kX ci).length ∧ ci < 7 := by
  match ci, h with
  | 0, h => cases h; exact ⟨in_X0, tyX0_ok, nmX0, rfl, by decide⟩
  | 1, h => cases h; exact ⟨in_X1, tyX1_ok, nmX1, rfl, by decide⟩
  | 2, h => cases h; exact ⟨in_X2, tyX2_ok, nmX2, rfl, by decide⟩
  | 3, h => cases h; exact ⟨in_X3, tyX3_ok, nmX3, rfl, by decide⟩
  | 4, h => cases h; exact ⟨in_X4, tyX4_ok, nmX4, rfl, by decide⟩
  | 5, h => cases h; exact ⟨in_X5, tyX5_ok, nmX5, rfl, by decide⟩
  | 6, h => cases h; exact ⟨in_X6, tyX6_ok, nmX6, rfl, by decide⟩
  | n + 7, h => simp [vwCl] at h
section XP
variable {p : Program} {l : Launch} {e : Env} {R : Room} {s : State} {m : MethodId} {args : Array Value} {below : List Frame} {meth : Method} {c : Code} {H : Heap} {locs : List Loc} {cells slots : Nat} {Q : State → Prop} {cc : ByteArray} {pc : Nat} {ls : Array Slot} {rest : List Value} {D : va_G} {tys : List (ClassId × FieldType)} {a ci k i : Nat} {own : String} {fs : List Value} {v : Value}
/-- getfield, from the one cell -/
theorem xp_get (hexec : p.tables.exec = Jvm.exec) (hb : c.code = cc) (hts : ∀ w ∈ lw_g, w.before args s = true) (hown : s.vm.findClass own = some m.cls) (hK : va_K D vwCl tys s) (hP : va_at D vwCl (a, .inr (ci, fs)) H) (hf : FL own i ci k) (hv : fs[k]? = some v) (hdg : decode cc pc = .ok (.getfield i, 3))
    (kk : W p l e R s m args below meth c H locs cells slots Q (F0 m (pc + 3) ls (v :: rest))) : W p l e R s m args below meth c H locs cells slots Q (F0 m pc ls (.ref a :: rest)) := by
  obtain ⟨⟨C, T, N⟩, hc, hk, hl⟩ := hf
  obtain ⟨hin, -, -, -, -⟩ := cls_ok hc
  have hP1 : va_P D vwCl [(a, .inr (ci, fs))] H := fun j x hx => by
    match j, hx with
    | 0, hx => cases hx; exact hP
  rcases hl with hl | ⟨host, hl⟩
  · exact va_get (own := own) hexec hb hts hin hown hK hP1 0 rfl hc k hk (hts _ hl) (fun _ h => h) hv hdg kk
  · exact va_getN (own := own) hexec hb hts hin hown hK hP1 0 rfl hc k hk (hts _ hl) (fun _ h => h) hv hdg kk
/-- putfield, of a field that isn't final: one cell is other, all else as it was -/
theorem xp_put (hexec : p.tables.exec = Jvm.exec) (hb : c.code = cc) (hts : ∀ w ∈ lw_g, w.before args s = true) (hown : s.vm.findClass own = some m.cls) (hK : va_K D vwCl tys s) (hP : va_at D vwCl (a, .inr (ci, fs)) H) (hf : FL own i ci k) (hfin : ∀ q : vw_C, vwCl[ci]? = some q → (q.2.1 k).2.2.2 = false) (hn : narrow (tyC ci k) v = v ∧ fits (tyC ci k) v = true) (hlen : k < fs.length) (hdg : decode cc pc = .ok (.putfield i, 3))
    (kk : ∀ (H1 : Heap) (locs1 : List Loc), va_at D vwCl (a, .inr (ci, fs.set k v)) H1 → H1.size = H.size → (∀ q : Nat, q ≠ a → H1[q]? = H[q]?) → (∀ x ∈ locs1, x ∈ locs ∨ x.base = a) → W p l e R s m args below meth c H1 locs1 cells slots Q (F0 m (pc + 3) ls rest)) : W p l e R s m args below meth c H locs cells slots Q (F0 m pc ls (v :: .ref a :: rest)) := by
  obtain ⟨⟨C, T, N⟩, hc, hk, hl⟩ := hf
  obtain ⟨hin, hty, hnm, -, -⟩ := cls_ok hc
  have hap := va_apart (own := own) hts hin _ hty hnm hK hc
  obtain ⟨r, h1, cell, q1, q2, q3, q4⟩ := hP
  have hr : r = (C, T, N) := Option.some.inj (h1.symm.trans hc)
  subst hr
  obtain ⟨hS, hfc, kC, hkC, hkind⟩ := hK.1 ci _ hc
  obtain ⟨cf, kf, fi, f, hi, hsl⟩ := hS k hk
  have hlay := hts _ (hin _ (u_in_lay hk))
  unfold u_lay at hlay
  rw [if_neg (by rw [hfin _ hc]; decide)] at hlay
  have hst := (u_facts hfc hkC (u_lays hts hin hk) hi).1
  have h6 := u_store hfc hkC hkind hlay hi (hty k hk) hn.1 hn.2
  have hend : ∀ (H' : Heap), H'[a]? = some (cell.setSlot f.slot v) → H'.size = H.size → (∀ q : Nat, q ≠ a → H'[q]? = H[q]?) → W p l e R s m args below meth c H' (locs ++ [⟨a, f.slot⟩]) cells slots Q (F0 m (pc + 3) ls rest) := fun H' e1 e2 e3 => by
    refine kk H' _ ⟨_, hc, ?_⟩ e2 e3 (fun x hx => (List.mem_append.mp hx).elim Or.inl (fun h => Or.inr (by rw [List.mem_singleton.mp h])))
    rw [hsl] at e1
    exact t_OB.to (V := updV (vp_V fs) k v) ⟨_, e1, q2, q3, t_set q4 hap hk v⟩ (fun j _ => vp_updV_set hlen v j)
  rcases hl with hl | ⟨host, hl⟩
  · exact W.putK hexec hb (f := f) ⟨hown, hts _ hl, ⟨_, _, _, hi⟩, hst⟩ (by rw [q2]; exact h6) q1 q3 (by rw [hsl]; exact k2_hasslot (q4 k hk)) rfl rfl hdg hend
  · exact va_WputK hexec hb (f := f) hown (hts _ hl) hi hst (by rw [q2]; exact h6) q1 q3 (by rw [hsl]; exact k2_hasslot (q4 k hk)) rfl rfl hdg hend
/-- putfield of a final field, in the constructor -/
theorem xp_putF (hexec : p.tables.exec = Jvm.exec) (hb : c.code = cc) (hts : ∀ w ∈ lw_g, w.before args s = true) (hown : s.vm.findClass own = some m.cls) (hnm0 : meth.name = "<init>") (hK : va_K D vwCl tys s) (hP : va_at D vwCl (a, .inr (ci, fs)) H) {C : String} {T : u_T} {N : Nat} (hc : vwCl[ci]? = some (C, T, N)) (hk : k < N) (hl : Cond.fieldLink own i (T k).1 (T k).2.1 (T k).2.2.1 ∈ lw_g) (hfin : (T k).2.2.2 = true) (hdecl : (T k).1 = own) (hn : narrow (tyC ci k) v = v ∧ fits (tyC ci k) v = true) (hlen : k < fs.length) (hdg : decode cc pc = .ok (.putfield i, 3))
    (kk : ∀ (H1 : Heap) (locs1 : List Loc), va_at D vwCl (a, .inr (ci, fs.set k v)) H1 → H1.size = H.size → (∀ q : Nat, q ≠ a → H1[q]? = H[q]?) → (∀ x ∈ locs1, x ∈ locs ∨ x.base = a) → W p l e R s m args below meth c H1 locs1 cells slots Q (F0 m (pc + 3) ls rest)) : W p l e R s m args below meth c H locs cells slots Q (F0 m pc ls (v :: .ref a :: rest)) := by
  obtain ⟨hin, hty, hnm, -, -⟩ := cls_ok hc
  have hap := va_apart (own := own) hts hin _ hty hnm hK hc
  obtain ⟨r, h1, cell, q1, q2, q3, q4⟩ := hP
  have hr : r = (C, T, N) := Option.some.inj (h1.symm.trans hc)
  subst hr
  obtain ⟨hS, hfc, kC, hkC, hkind⟩ := hK.1 ci _ hc
  obtain ⟨cf, kf, fi, f, hi, hsl⟩ := hS k hk
  have hlay := hts _ (hin _ (u_in_lay hk))
  unfold u_lay at hlay
  rw [if_pos hfin] at hlay
  have hst := (u_facts hfc hkC (u_lays hts hin hk) hi).1
  have hcf : m.cls = cf := by
    obtain ⟨_, _, c', _, _, _, -, -, hf', -, -, -, hown2, -⟩ := Cond.laysFinal_spec hlay
    have e1 : c' = cf := by have := hi.symm.trans hf'; simp at this; exact this.1.symm
    rw [hdecl] at hown2
    rw [← e1]; exact Option.some.inj (hown.symm.trans hown2)
  have h6 := u_fits hfc hkC hkind (Or.inr hlay) hi (hty k hk) hn.1 hn.2
  refine W.putFinK hexec hb hown (hts _ hl) hi hst hcf hnm0 (by rw [q2]; exact h6) q1 q3 (by rw [hsl]; exact k2_hasslot (q4 k hk)) rfl rfl hdg fun H' e1 e2 e3 => ?_
  refine kk H' _ ⟨_, hc, ?_⟩ e2 e3 (fun x hx => (List.mem_append.mp hx).elim Or.inl (fun h => Or.inr (by rw [List.mem_singleton.mp h])))
  rw [hsl] at e1
  exact t_OB.to (V := updV (vp_V fs) k v) ⟨_, e1, q2, q3, t_set q4 hap hk v⟩ (fun j _ => vp_updV_set hlen v j)
end XP
section Rows2
variable {G : GG} {d : Nat} {u : MI} {z0 n0 : Nat} {r : Option Value} {mF : Mem} {pc : Nat} {lv : List (Nat × Value)} {st : List Value} {m : Mem}
/-- a step that writes the memory, the kinds and the size of it staying -/
theorem ev_wr {pc' : Nat} {st' : List Value} {m' : Mem} (k : EvB G d u z0 n0 r mF pc' lv st' m') (hz : zz m' = zz m) (hn : nn m' = nn m)
    (h : ∀ {p : Program} {e : Env} {R : Room} {s : State} {q : MethodId} {args : Array Value} {below : List Frame} {meth : Method} {c : Code} {Q : State → Prop} {H : Heap} {ls : Array Slot} {locs : List Loc} {cells slots : Nat}, Fx G u p s q args meth c → Rep G m H → (∀ x ∈ locs, G.2.2.1 ≤ x.base) → (∀ (H1 : Heap) (locs1 : List Loc), Rep G m' H1 → (∀ x ∈ locs1, G.2.2.1 ≤ x.base) → W p G.1 e R s q args below meth c H1 locs1 cells slots Q (F0 q pc' ls st')) → W p G.1 e R s q args below meth c H locs cells slots Q (F0 q pc ls st)) :
    EvB G d u z0 n0 r mF pc lv st m := by
  refine ⟨by rw [← hz, ← hn]; exact k.1, fun p e R s q args below meth c Q F hR hQ hB h1 h2 H ls locs hr hl hL => h F hr hL (fun H1 locs1 hr1 hL1 => ?_)⟩
  have w := k.2 p e R s q args below meth c Q F hR hQ hB (by rw [hz]; exact h1) (by rw [hn]; exact h2) H1 ls locs1 hr1 hl hL1
  rw [hz, hn] at w
  exact w
theorem e_get {i ci k a : Nat} (hd : decode u.2.1 pc = .ok (.getfield i, 3)) (hf : FL u.1.cls i ci k) (ht : gT m a = ci + 1) (kk : EvB G d u z0 n0 r mF (pc + 3) lv (fV m ci k a ((kX ci).getD k 0) :: st) m) : EvB G d u z0 n0 r mF pc lv (.ref a :: st) m :=
  ev_go kk (fun F hr _ w => by
    obtain ⟨q, hq, hk, -⟩ := id hf
    obtain ⟨-, -, -, hN, h7⟩ := cls_ok hq
    exact xp_get F.1 F.2.1 F.2.2.2.2.2.2.2.1 F.2.2.2.2.2.1 F.2.2.2.2.2.2.2.2.1 (hr.at (cO_obj ht h7)) hf (fO_get m ci a (hN ▸ hk)) hd w)
theorem e_getI {i ci k a : Nat} (hd : decode u.2.1 pc = .ok (.getfield i, 3)) (hf : FL u.1.cls i ci k) (hk : (kX ci).getD k 0 = 0) (ht : gT m a = ci + 1) (kk : EvB G d u z0 n0 r mF (pc + 3) lv (.int (gI m (20 * ci + k) a) :: st) m) : EvB G d u z0 n0 r mF pc lv (.ref a :: st) m := e_get hd hf ht (by rw [hk]; exact kk)
theorem e_getL {i ci k a : Nat} (hd : decode u.2.1 pc = .ok (.getfield i, 3)) (hf : FL u.1.cls i ci k) (hk : (kX ci).getD k 0 = 1) (ht : gT m a = ci + 1) (kk : EvB G d u z0 n0 r mF (pc + 3) lv (.long (gL m (20 * ci + k) a) :: st) m) : EvB G d u z0 n0 r mF pc lv (.ref a :: st) m := e_get hd hf ht (by rw [hk]; exact kk)
theorem e_getP {i ci k a : Nat} (o : Option Nat) (hd : decode u.2.1 pc = .ok (.getfield i, 3)) (hf : FL u.1.cls i ci k) (hk : (kX ci).getD k 0 = 2) (ht : gT m a = ci + 1) (ho : gP m (20 * ci + k) a = o) (kk : EvB G d u z0 n0 r mF (pc + 3) lv (va_rf o :: st) m) : EvB G d u z0 n0 r mF pc lv (.ref a :: st) m := e_get hd hf ht (by rw [hk]; show EvB G d u z0 n0 r mF (pc + 3) lv (va_rf (gP m (20 * ci + k) a) :: st) m; rw [ho]; exact kk)
/-- the general putfield -/
theorem e_put {i ci k a : Nat} {v : Value} {m' : Mem} (hd : decode u.2.1 pc = .ok (.putfield i, 3)) (hf : FL u.1.cls i ci k) (hfin : ∀ q : vw_C, vwCl[ci]? = some q → (q.2.1 k).2.2.2 = false) (hn : narrow (tyC ci k) v = v ∧ fits (tyC ci k) v = true) (ht : gT m a = ci + 1)
    (ht' : gT m' = gT m) (hN' : gN m' = gN m) (hz : zz m' = zz m) (hnn : nn m' = nn m) (hA : aI m' = aI m ∧ aL m' = aL m ∧ aP m' = aP m) (hv : fV m' ci k a ((kX ci).getD k 0) = v)
    (ho : ∀ f b, b ≠ a ∨ f ≠ 20 * ci + k → gI m' f b = gI m f b ∧ gL m' f b = gL m f b ∧ gP m' f b = gP m f b)
    (kk : EvB G d u z0 n0 r mF (pc + 3) lv st m') : EvB G d u z0 n0 r mF pc lv (v :: .ref a :: st) m :=
  ev_wr kk hz hnn (fun F hr hL w => by
    obtain ⟨q, hq, hk, -⟩ := id hf
    obtain ⟨-, -, -, hN, h7⟩ := cls_ok hq
    have hk' : k < (kX ci).length := hN ▸ hk
    refine xp_put F.1 F.2.1 F.2.2.2.2.2.2.2.1 F.2.2.2.2.2.1 F.2.2.2.2.2.2.2.2.1 (hr.at (cO_obj ht h7)) hf hfin hn (by rw [fO_len]; exact hk') hd (fun H1 locs1 e1 e2 e3 e4 => w H1 locs1 ?_ (fun x hx => (e4 x hx).elim (hL x) (fun h => by rw [h]; exact hr.2.2 a (by rw [ht]; omega) (by rw [ht]; omega))))
    refine hr.set hz ht' (a := a) (fun b hb => cO_oth (by rw [ht']) (by rw [hN']) (fun f => ho f b (Or.inl hb)) (by rw [hA.1]) (by rw [hA.2.1]) (by rw [hA.2.2])) (cO_obj (by rw [ht']; exact ht) h7) ?_ e2 e3
    rw [fO_set hk' hv (fun f hf => ho f a (Or.inr hf))]
    exact e1)
theorem e_putI {i ci k a : Nat} {x : Int32} (hd : decode u.2.1 pc = .ok (.putfield i, 3)) (hf : FL u.1.cls i ci k) (hk : (kX ci).getD k 0 = 0) (hfin : ∀ q : vw_C, vwCl[ci]? = some q → (q.2.1 k).2.2.2 = false) (hn : narrow (tyC ci k) (.int x) = .int x ∧ fits (tyC ci k) (.int x) = true) (ht : gT m a = ci + 1)
    (kk : EvB G d u z0 n0 r mF (pc + 3) lv st (sI m (20 * ci + k) a x)) : EvB G d u z0 n0 r mF pc lv (.int x :: .ref a :: st) m :=
  e_put (m' := sI m (20 * ci + k) a x) hd hf hfin hn ht rfl rfl rfl rfl ⟨rfl, rfl, rfl⟩ (by rw [hk]; show Value.int (u2 (gI m) (20 * ci + k) a x (20 * ci + k) a) = _; rw [u2_eq]) (fun f b h => ⟨by show u2 (gI m) (20 * ci + k) a x f b = _; rcases h with h | h; exact u2_na _ _ h; exact u2_nf _ _ h, rfl, rfl⟩) kk
theorem e_putL {i ci k a : Nat} {x : Int64} (hd : decode u.2.1 pc = .ok (.putfield i, 3)) (hf : FL u.1.cls i ci k) (hk : (kX ci).getD k 0 = 1) (hfin : ∀ q : vw_C, vwCl[ci]? = some q → (q.2.1 k).2.2.2 = false) (hn : narrow (tyC ci k) (.long x) = .long x ∧ fits (tyC ci k) (.long x) = true) (ht : gT m a = ci + 1)
    (kk : EvB G d u z0 n0 r mF (pc + 3) lv st (sL m (20 * ci + k) a x)) : EvB G d u z0 n0 r mF pc lv (.long x :: .ref a :: st) m :=
  e_put (m' := sL m (20 * ci + k) a x) hd hf hfin hn ht rfl rfl rfl rfl ⟨rfl, rfl, rfl⟩ (by rw [hk]; show Value.long (u2 (gL m) (20 * ci + k) a x (20 * ci + k) a) = _; rw [u2_eq]) (fun f b h => ⟨rfl, by show u2 (gL m) (20 * ci + k) a x f b = _; rcases h with h | h; exact u2_na _ _ h; exact u2_nf _ _ h, rfl⟩) kk
theorem e_putP {i ci k a : Nat} {v : Value} (x : Option Nat) (hd : decode u.2.1 pc = .ok (.putfield i, 3)) (hf : FL u.1.cls i ci k) (hk : (kX ci).getD k 0 = 2) (hfin : ∀ q : vw_C, vwCl[ci]? = some q → (q.2.1 k).2.2.2 = false) (hn : narrow (tyC ci k) v = v ∧ fits (tyC ci k) v = true) (hv : v = va_rf x) (ht : gT m a = ci + 1)
    (kk : EvB G d u z0 n0 r mF (pc + 3) lv st (sP m (20 * ci + k) a x)) : EvB G d u z0 n0 r mF pc lv (v :: .ref a :: st) m :=
  e_put (m' := sP m (20 * ci + k) a x) hd hf hfin hn ht rfl rfl rfl rfl ⟨rfl, rfl, rfl⟩ (by rw [hk, hv]; show va_rf (u2 (gP m) (20 * ci + k) a x (20 * ci + k) a) = _; rw [u2_eq]) (fun f b h => ⟨rfl, rfl, by show u2 (gP m) (20 * ci + k) a x f b = _; rcases h with h | h; exact u2_na _ _ h; exact u2_nf _ _ h⟩) kk
/-- putfield of a final field, in a constructor -/
theorem e_putF {i ci k a : Nat} {v : Value} (x : Option Nat) (hd : decode u.2.1 pc = .ok (.putfield i, 3)) {C : String} {T : u_T} {N : Nat} (hc : vwCl[ci]? = some (C, T, N)) (hk : k < N) (hl : Cond.fieldLink u.1.cls i (T k).1 (T k).2.1 (T k).2.2.1 ∈ lw_g) (hfin : (T k).2.2.2 = true) (hdecl : (T k).1 = u.1.cls) (hnm : u.1.name = "<init>") (hk2 : (kX ci).getD k 0 = 2) (hn : narrow (tyC ci k) v = v ∧ fits (tyC ci k) v = true) (hv : v = va_rf x) (ht : gT m a = ci + 1)
    (kk : EvB G d u z0 n0 r mF (pc + 3) lv st (sP m (20 * ci + k) a x)) : EvB G d u z0 n0 r mF pc lv (v :: .ref a :: st) m :=
  ev_wr kk rfl rfl (fun F hr hL w => by
    obtain ⟨-, -, -, hN, h7⟩ := cls_ok hc
    have hk' : k < (kX ci).length := hN ▸ hk
    refine xp_putF F.1 F.2.1 F.2.2.2.2.2.2.2.1 F.2.2.2.2.2.1 (by rw [F.2.2.2.2.2.2.1]; exact hnm) F.2.2.2.2.2.2.2.2.1 (hr.at (cO_obj ht h7)) hc hk hl hfin hdecl hn (by rw [fO_len]; exact hk') hd (fun H1 locs1 e1 e2 e3 e4 => w H1 locs1 ?_ (fun x hx => (e4 x hx).elim (hL x) (fun h => by rw [h]; exact hr.2.2 a (by rw [ht]; omega) (by rw [ht]; omega))))
    have ho : ∀ f b, b ≠ a ∨ f ≠ 20 * ci + k → gP (sP m (20 * ci + k) a x) f b = gP m f b := fun f b h => by show u2 (gP m) (20 * ci + k) a x f b = _; rcases h with h | h; exact u2_na _ _ h; exact u2_nf _ _ h
    refine hr.set rfl rfl (a := a) (fun b hb => cO_oth rfl rfl (fun f => ⟨rfl, rfl, ho f b (Or.inl hb)⟩) rfl rfl rfl) (cO_obj ht h7) ?_ e2 e3
    rw [fO_set (m := m) (m' := sP m (20 * ci + k) a x) (v := v) (a := a) hk' (by rw [hk2, hv]; show va_rf (u2 (gP m) (20 * ci + k) a x (20 * ci + k) a) = _; rw [u2_eq]) (fun f hf => ⟨rfl, rfl, ho f a (Or.inr hf)⟩)]
    exact e1)
theorem e_putFI {i ci k a : Nat} {x : Int32} (hd : decode u.2.1 pc = .ok (.putfield i, 3)) {C : String} {T : u_T} {N : Nat} (hc : vwCl[ci]? = some (C, T, N)) (hk : k < N) (hl : Cond.fieldLink u.1.cls i (T k).1 (T k).2.1 (T k).2.2.1 ∈ lw_g) (hfin : (T k).2.2.2 = true) (hdecl : (T k).1 = u.1.cls) (hnm : u.1.name = "<init>") (hk2 : (kX ci).getD k 0 = 0) (hn : narrow (tyC ci k) (.int x) = .int x ∧ fits (tyC ci k) (.int x) = true) (ht : gT m a = ci + 1)
    (kk : EvB G d u z0 n0 r mF (pc + 3) lv st (sI m (20 * ci + k) a x)) : EvB G d u z0 n0 r mF pc lv (.int x :: .ref a :: st) m :=
  ev_wr kk rfl rfl (fun F hr hL w => by
    obtain ⟨-, -, -, hN, h7⟩ := cls_ok hc
    have hk' : k < (kX ci).length := hN ▸ hk
    refine xp_putF F.1 F.2.1 F.2.2.2.2.2.2.2.1 F.2.2.2.2.2.1 (by rw [F.2.2.2.2.2.2.1]; exact hnm) F.2.2.2.2.2.2.2.2.1 (hr.at (cO_obj ht h7)) hc hk hl hfin hdecl hn (by rw [fO_len]; exact hk') hd (fun H1 locs1 e1 e2 e3 e4 => w H1 locs1 ?_ (fun x hx => (e4 x hx).elim (hL x) (fun h => by rw [h]; exact hr.2.2 a (by rw [ht]; omega) (by rw [ht]; omega))))
    have ho : ∀ f b, b ≠ a ∨ f ≠ 20 * ci + k → gI (sI m (20 * ci + k) a x) f b = gI m f b := fun f b h => by show u2 (gI m) (20 * ci + k) a x f b = _; rcases h with h | h; exact u2_na _ _ h; exact u2_nf _ _ h
    refine hr.set rfl rfl (a := a) (fun b hb => cO_oth rfl rfl (fun f => ⟨ho f b (Or.inl hb), rfl, rfl⟩) rfl rfl rfl) (cO_obj ht h7) ?_ e2 e3
    rw [fO_set (m := m) (m' := sI m (20 * ci + k) a x) (v := .int x) (a := a) hk' (by rw [hk2]; show Value.int (u2 (gI m) (20 * ci + k) a x (20 * ci + k) a) = _; rw [u2_eq]) (fun f hf => ⟨ho f a (Or.inr hf), rfl, rfl⟩)]
    exact e1)
end Rows2
