/-! arrays and new cells over the plain memory -/
theorem TY_at {G : GG} {U : State} (h : KK G U) {t : Nat} (ht : 11 ≤ t ∧ t ≤ 17) : ArrOfT U (G.2.2.2 t) (tyA t) ∧ va_RA U (G.2.2.2 t) (tyA t) := by
  obtain ⟨h1, h2⟩ := ht
  rcases (show t = 11 ∨ t = 12 ∨ t = 13 ∨ t = 14 ∨ t = 15 ∨ t = 16 ∨ t = 17 by omega) with rfl | rfl | rfl | rfl | rfl | rfl | rfl
  · exact h.1.2 0 _ rfl
  · exact h.1.2 1 _ rfl
  · exact h.1.2 2 _ rfl
  · exact h.1.2 3 _ rfl
  · exact h.1.2 4 _ rfl
  · exact h.1.2 5 _ rfl
  · exact h.1.2 6 _ rfl
theorem vp_in_lt {i : Int32} {n : Nat} (h : vp_in i n) : i.toNatClampNeg < n := Nat.not_le.mp fun q => h (Or.inr q)
section Rows3
variable {G : GG} {d : Nat} {u : MI} {z0 n0 : Nat} {r : Option Value} {mF : Mem} {pc : Nat} {lv : List (Nat × Value)} {st : List Value} {m : Mem}
theorem e_alenS {a : Nat} {n : Int32} (hd : decode u.2.1 pc = .ok (.arraylength, 1)) (ht : gT m a = 18) (hn : Int32.ofNat (gN m a) = n) (kk : EvB G d u z0 n0 r mF (pc + 1) lv (.int n :: st) m) : EvB G d u z0 n0 r mF pc lv (.ref a :: st) m :=
  ev_go kk (fun F hr _ w => by
    obtain ⟨scr, h1, h2, h3, h4, h5, h6⟩ := hr.scr ht
    exact W.alen F.1 F.2.1 h1 (scr_arr F.2.2.2.2.2.2.2.2 h2 h3) (by rw [h5]; exact hn) rfl rfl hd w)
theorem e_alen {a t : Nat} {n : Int32} (hd : decode u.2.1 pc = .ok (.arraylength, 1)) (ht : gT m a = t) (h1 : 11 ≤ t ∧ t ≤ 17) (hn : Int32.ofNat (gN m a) = n) (kk : EvB G d u z0 n0 r mF (pc + 1) lv (.int n :: st) m) : EvB G d u z0 n0 r mF pc lv (.ref a :: st) m :=
  ev_go kk (fun F hr _ w => by
    have K := TY_at F.2.2.2.2.2.2.2.2 h1
    rcases (show (t = 11 ∨ t = 12 ∨ t = 14 ∨ t = 15) ∨ t = 13 ∨ (t = 16 ∨ t = 17) by omega) with h | h | h
    · exact W.alen F.1 F.2.1 (hr.at (cO_int ht h)) (K.1 (gN m a) (fun j => .int (aI m a j))) (by rw [vp_cell_i, arrV_size]; exact hn) rfl rfl hd w
    · subst h
      exact W.alen F.1 F.2.1 (hr.at (cO_lng ht)) (K.1 (gN m a) (fun j => .long (aL m a j))) (by rw [vp_cell_l, arrV_size]; exact hn) rfl rfl hd w
    · exact W.alen F.1 F.2.1 (hr.at (cO_ref ht h)) (K.1 (gN m a) (fun j => va_rf (aP m a j))) (by rw [vp_cell_q, arrV_size]; exact hn) rfl rfl hd w)
theorem e_iald {a : Nat} {i : Int32} (hd : decode u.2.1 pc = .ok (.iaload, 1)) (ht : gT m a = 12) (hi : vp_in i (gN m a)) (kk : EvB G d u z0 n0 r mF (pc + 1) lv (.int (aI m a i.toNatClampNeg) :: st) m) : EvB G d u z0 n0 r mF pc lv (.int i :: .ref a :: st) m :=
  ev_go kk (fun F hr _ w => W.iald (v := .int (aI m a i.toNatClampNeg)) F.1 F.2.1 (hr.at (cO_int ht (by omega))) ((TY_at F.2.2.2.2.2.2.2.2 (t := 12) ⟨by decide, by decide⟩).1 (gN m a) (fun j => .int (aI m a j))) (fun q => by cases q) (by show ¬ (i < 0 ∨ (arrV _ _ _).slots.size ≤ _); rw [arrV_size]; exact hi) (by show (arrV _ _ _).slots[_]? = _; rw [arrV_read _ _ (vp_in_lt hi)]) rfl rfl hd w)
theorem e_ialdS {a : Nat} {i : Int32} (hd : decode u.2.1 pc = .ok (.iaload, 1)) (ht : gT m a = 18) (hi : vp_in i (gN m a)) (kk : EvB G d u z0 n0 r mF (pc + 1) lv (.int (aI m a i.toNatClampNeg) :: st) m) : EvB G d u z0 n0 r mF pc lv (.int i :: .ref a :: st) m :=
  ev_go kk (fun F hr _ w => by
    obtain ⟨scr, h1, h2, h3, h4, h5, h6⟩ := hr.scr ht
    exact W.iald (v := .int (aI m a i.toNatClampNeg)) F.1 F.2.1 h1 (scr_arr F.2.2.2.2.2.2.2.2 h2 h3) h4 (by rw [h5]; exact hi) (h6 _ (vp_in_lt hi)) rfl rfl hd w)
theorem e_bald {a : Nat} {i : Int32} (hd : decode u.2.1 pc = .ok (.baload, 1)) (ht : gT m a = 11) (hi : vp_in i (gN m a)) (kk : EvB G d u z0 n0 r mF (pc + 1) lv (.int (aI m a i.toNatClampNeg) :: st) m) : EvB G d u z0 n0 r mF pc lv (.int i :: .ref a :: st) m :=
  ev_go kk (fun F hr _ w => W.bald (v := .int (aI m a i.toNatClampNeg)) F.1 F.2.1 (hr.at (cO_int ht (by omega))) ((TY_at F.2.2.2.2.2.2.2.2 (t := 11) ⟨by decide, by decide⟩).1 (gN m a) (fun j => .int (aI m a j))) (fun q => by cases q) (by show ¬ (i < 0 ∨ (arrV _ _ _).slots.size ≤ _); rw [arrV_size]; exact hi) (by show (arrV _ _ _).slots[_]? = _; rw [arrV_read _ _ (vp_in_lt hi)]) rfl rfl hd w)
theorem e_zald {a : Nat} {i : Int32} (hd : decode u.2.1 pc = .ok (.baload, 1)) (ht : gT m a = 15) (hi : vp_in i (gN m a)) (kk : EvB G d u z0 n0 r mF (pc + 1) lv (.int (aI m a i.toNatClampNeg) :: st) m) : EvB G d u z0 n0 r mF pc lv (.int i :: .ref a :: st) m :=
  ev_go kk (fun F hr _ w => W.zald (v := .int (aI m a i.toNatClampNeg)) F.1 F.2.1 (hr.at (cO_int ht (by omega))) ((TY_at F.2.2.2.2.2.2.2.2 (t := 15) ⟨by decide, by decide⟩).1 (gN m a) (fun j => .int (aI m a j))) (fun q => by cases q) (by show ¬ (i < 0 ∨ (arrV _ _ _).slots.size ≤ _); rw [arrV_size]; exact hi) (by show (arrV _ _ _).slots[_]? = _; rw [arrV_read _ _ (vp_in_lt hi)]) rfl rfl hd w)
theorem e_sald {a : Nat} {i : Int32} (hd : decode u.2.1 pc = .ok (.saload, 1)) (ht : gT m a = 14) (hi : vp_in i (gN m a)) (kk : EvB G d u z0 n0 r mF (pc + 1) lv (.int (aI m a i.toNatClampNeg) :: st) m) : EvB G d u z0 n0 r mF pc lv (.int i :: .ref a :: st) m :=
  ev_go kk (fun F hr _ w => W.sald (v := .int (aI m a i.toNatClampNeg)) F.1 F.2.1 (hr.at (cO_int ht (by omega))) ((TY_at F.2.2.2.2.2.2.2.2 (t := 14) ⟨by decide, by decide⟩).1 (gN m a) (fun j => .int (aI m a j))) (fun q => by cases q) (by show ¬ (i < 0 ∨ (arrV _ _ _).slots.size ≤ _); rw [arrV_size]; exact hi) (by show (arrV _ _ _).slots[_]? = _; rw [arrV_read _ _ (vp_in_lt hi)]) rfl rfl hd w)
theorem e_lald {a : Nat} {i : Int32} (hd : decode u.2.1 pc = .ok (.laload, 1)) (ht : gT m a = 13) (hi : vp_in i (gN m a)) (kk : EvB G d u z0 n0 r mF (pc + 1) lv (.long (aL m a i.toNatClampNeg) :: st) m) : EvB G d u z0 n0 r mF pc lv (.int i :: .ref a :: st) m :=
  ev_go kk (fun F hr _ w => W.lald (v := .long (aL m a i.toNatClampNeg)) F.1 F.2.1 (hr.at (cO_lng ht)) ((TY_at F.2.2.2.2.2.2.2.2 (t := 13) ⟨by decide, by decide⟩).1 (gN m a) (fun j => .long (aL m a j))) (fun q => by cases q) (by show ¬ (i < 0 ∨ (arrV _ _ _).slots.size ≤ _); rw [arrV_size]; exact hi) (by show (arrV _ _ _).slots[_]? = _; rw [arrV_read _ _ (vp_in_lt hi)]) rfl rfl hd w)
theorem e_aald {a t : Nat} {i : Int32} (o : Option Nat) (hd : decode u.2.1 pc = .ok (.aaload, 1)) (ht : gT m a = t) (h1 : t = 16 ∨ t = 17) (hi : vp_in i (gN m a)) (ho : aP m a i.toNatClampNeg = o) (kk : EvB G d u z0 n0 r mF (pc + 1) lv (va_rf o :: st) m) : EvB G d u z0 n0 r mF pc lv (.int i :: .ref a :: st) m := by
  subst ho
  exact ev_go kk (fun F hr _ w => W.aald (v := va_rf (aP m a i.toNatClampNeg)) (ty := tyA t) F.1 F.2.1 (hr.at (cO_ref ht h1)) ((TY_at F.2.2.2.2.2.2.2.2 (t := t) ⟨by omega, by omega⟩).1 (gN m a) (fun j => va_rf (aP m a j))) (by rcases h1 with rfl | rfl <;> rfl) (fun q => by cases q) (by show ¬ (i < 0 ∨ (arrV _ _ _).slots.size ≤ _); rw [arrV_size]; exact hi) (by show (arrV _ _ _).slots[_]? = _; rw [arrV_read _ _ (vp_in_lt hi)]) rfl rfl hd w)
-- stores
theorem sAI_rep {t a j : Nat} {x : Int32} {H H1 : Heap} (hr : Rep G m H) (ht : gT m a = t) (h1 : t = 11 ∨ t = 12 ∨ t = 14 ∨ t = 15) (e1 : H1[a]? = some ((arrV (G.2.2.2 t) (gN m a) (fun q => .int (aI m a q))).setSlot j (.int x))) (e2 : H1.size = H.size) (e3 : ∀ q : Nat, q ≠ a → H1[q]? = H[q]?) : Rep G (sAI m a j x) H1 := by
  have hA : aI (sAI m a j x) a = upd (aI m a) j x := by
    funext q
    show u2 (aI m) a j x a q = _
    by_cases hq : q = j <;> simp [u2, upd, hq]
  refine hr.set rfl rfl (a := a) (fun b hb => cO_oth rfl rfl (fun f => ⟨rfl, rfl, rfl⟩) ?_ rfl rfl) (cO_int (m := sAI m a j x) ht h1) ?_ e2 e3
  · funext q
    exact u2_nf _ _ hb
  · show H1[a]? = some (vp_cell _ (gN m a, .inl (aI (sAI m a j x) a)))
    rw [e1, hA, vp_cell_i, arrV_store]
    congr 2
    funext q
    by_cases hq : q = j <;> simp [updV, upd, hq]
theorem e_iast {a : Nat} {i x : Int32} (hd : decode u.2.1 pc = .ok (.iastore, 1)) (ht : gT m a = 12) (hi : vp_in i (gN m a)) (kk : EvB G d u z0 n0 r mF (pc + 1) lv st (sAI m a i.toNatClampNeg x)) : EvB G d u z0 n0 r mF pc lv (.int x :: .int i :: .ref a :: st) m :=
  ev_wr kk rfl rfl (fun F hr hL w => W.iast F.1 F.2.1 (hr.at (cO_int ht (by omega))) ((TY_at F.2.2.2.2.2.2.2.2 (t := 12) ⟨by decide, by decide⟩).1 (gN m a) (fun j => .int (aI m a j))) (fun q => by cases q) (by show ¬ (i < 0 ∨ (arrV _ _ _).slots.size ≤ _); rw [arrV_size]; exact hi) rfl rfl hd (fun H1 e1 e2 e3 => w H1 _ (sAI_rep hr ht (by omega) e1 e2 e3) (fun y hy => (List.mem_append.mp hy).elim (hL y) (fun h => by rw [List.mem_singleton.mp h]; exact hr.2.2 a (by rw [ht]; decide) (by rw [ht]; decide)))))
theorem e_bast {a : Nat} {i x y : Int32} (hd : decode u.2.1 pc = .ok (.bastore, 1)) (ht : gT m a = 11) (hi : vp_in i (gN m a)) (hx : narrow .byte (.int x) = .int y) (kk : EvB G d u z0 n0 r mF (pc + 1) lv st (sAI m a i.toNatClampNeg y)) : EvB G d u z0 n0 r mF pc lv (.int x :: .int i :: .ref a :: st) m :=
  ev_wr kk rfl rfl (fun F hr hL w => W.bast F.1 F.2.1 (hr.at (cO_int ht (by omega))) ((TY_at F.2.2.2.2.2.2.2.2 (t := 11) ⟨by decide, by decide⟩).1 (gN m a) (fun j => .int (aI m a j))) (fun q => by cases q) (by show ¬ (i < 0 ∨ (arrV _ _ _).slots.size ≤ _); rw [arrV_size]; exact hi) rfl rfl hd (fun H1 e1 e2 e3 => w H1 _ (sAI_rep hr ht (by omega) (by rw [e1, hx]; rfl) e2 e3) (fun y hy => (List.mem_append.mp hy).elim (hL y) (fun h => by rw [List.mem_singleton.mp h]; exact hr.2.2 a (by rw [ht]; decide) (by rw [ht]; decide)))))
theorem e_zast {a : Nat} {i x y : Int32} (hd : decode u.2.1 pc = .ok (.bastore, 1)) (ht : gT m a = 15) (hi : vp_in i (gN m a)) (hx : narrow .boolean (.int x) = .int y) (kk : EvB G d u z0 n0 r mF (pc + 1) lv st (sAI m a i.toNatClampNeg y)) : EvB G d u z0 n0 r mF pc lv (.int x :: .int i :: .ref a :: st) m :=
  ev_wr kk rfl rfl (fun F hr hL w => W.zast F.1 F.2.1 (hr.at (cO_int ht (by omega))) ((TY_at F.2.2.2.2.2.2.2.2 (t := 15) ⟨by decide, by decide⟩).1 (gN m a) (fun j => .int (aI m a j))) (fun q => by cases q) (by show ¬ (i < 0 ∨ (arrV _ _ _).slots.size ≤ _); rw [arrV_size]; exact hi) rfl rfl hd (fun H1 e1 e2 e3 => w H1 _ (sAI_rep hr ht (by omega) (by rw [e1, hx]; rfl) e2 e3) (fun y hy => (List.mem_append.mp hy).elim (hL y) (fun h => by rw [List.mem_singleton.mp h]; exact hr.2.2 a (by rw [ht]; decide) (by rw [ht]; decide)))))
theorem e_sast {a : Nat} {i x y : Int32} (hd : decode u.2.1 pc = .ok (.sastore, 1)) (ht : gT m a = 14) (hi : vp_in i (gN m a)) (hx : narrow .short (.int x) = .int y) (kk : EvB G d u z0 n0 r mF (pc + 1) lv st (sAI m a i.toNatClampNeg y)) : EvB G d u z0 n0 r mF pc lv (.int x :: .int i :: .ref a :: st) m :=
  ev_wr kk rfl rfl (fun F hr hL w => W.sast F.1 F.2.1 (hr.at (cO_int ht (by omega))) ((TY_at F.2.2.2.2.2.2.2.2 (t := 14) ⟨by decide, by decide⟩).1 (gN m a) (fun j => .int (aI m a j))) (fun q => by cases q) (by show ¬ (i < 0 ∨ (arrV _ _ _).slots.size ≤ _); rw [arrV_size]; exact hi) rfl rfl hd (fun H1 e1 e2 e3 => w H1 _ (sAI_rep hr ht (by omega) (by rw [e1, hx]; rfl) e2 e3) (fun y hy => (List.mem_append.mp hy).elim (hL y) (fun h => by rw [List.mem_singleton.mp h]; exact hr.2.2 a (by rw [ht]; decide) (by rw [ht]; decide)))))
theorem e_last {a : Nat} {i : Int32} {x : Int64} (hd : decode u.2.1 pc = .ok (.lastore, 1)) (ht : gT m a = 13) (hi : vp_in i (gN m a)) (kk : EvB G d u z0 n0 r mF (pc + 1) lv st (sAL m a i.toNatClampNeg x)) : EvB G d u z0 n0 r mF pc lv (.long x :: .int i :: .ref a :: st) m :=
  ev_wr kk rfl rfl (fun F hr hL w => W.last F.1 F.2.1 (hr.at (cO_lng ht)) ((TY_at F.2.2.2.2.2.2.2.2 (t := 13) ⟨by decide, by decide⟩).1 (gN m a) (fun j => .long (aL m a j))) (fun q => by cases q) (by show ¬ (i < 0 ∨ (arrV _ _ _).slots.size ≤ _); rw [arrV_size]; exact hi) rfl rfl hd (fun H1 e1 e2 e3 => w H1 _ (by
    refine hr.set rfl rfl (a := a) (fun b hb => cO_oth rfl rfl (fun f => ⟨rfl, rfl, rfl⟩) rfl (by funext q; exact u2_nf _ _ hb) rfl) (cO_lng (m := sAL m a i.toNatClampNeg x) ht) ?_ e2 e3
    show H1[a]? = some (vp_cell _ (gN m a, .inr (.inl (aL (sAL m a i.toNatClampNeg x) a))))
    rw [e1]
    show some ((arrV _ _ _).setSlot _ _) = _
    rw [vp_cell_l, arrV_store]
    congr 2
    funext q
    show updV _ _ _ q = Value.long (u2 (aL m) a i.toNatClampNeg x a q)
    by_cases hq : q = i.toNatClampNeg <;> simp [updV, u2, hq]) (fun y hy => (List.mem_append.mp hy).elim (hL y) (fun h => by rw [List.mem_singleton.mp h]; exact hr.2.2 a (by rw [ht]; decide) (by rw [ht]; decide)))))
end Rows3
