/-! stores of references, new cells, calls -/
theorem warm_g {args a' : Array Value} {s U : State} (hW : s.WarmedH U.vm) (hts : ∀ w ∈ lw_g, w.before args s = true) : ∀ w ∈ lw_g, w.before a' U = true := by
  intro w hw
  have h1 := hts w hw
  have h2 : okW w = true := (List.mem_filter.mp hw).2
  unfold okW at h2
  rcases Bool.or_eq_true _ _ |>.mp h2 with h3 | h3
  · exact word_at hW (good_of_word h3) h1
  · cases w with
    | fieldLinkNest a i b n d h => exact va_Nw.use rfl (va_Nw.warmF hW (va_Nw.of rfl h1))
    | methodLinkNest a i x h => exact va_Nw.use rfl (va_Nw.warmM hW (va_Nw.of rfl h1))
    | arrayOver ty =>
      cases ty with
      | object C => exact va_AO.use (va_AO.moved hW.alike (va_AO.of h1))
      | _ => simp at h3
    | _ => simp at h3
section Rows4
variable {G : GG} {d : Nat} {u : MI} {z0 n0 : Nat} {r : Option Value} {mF : Mem} {pc : Nat} {lv : List (Nat × Value)} {st : List Value} {m : Mem}
theorem e_aast {a v t ci : Nat} {i : Int32} (hd : decode u.2.1 pc = .ok (.aastore, 1)) (ht : gT m a = t) (h1 : (t = 16 ∧ ci = 2) ∨ (t = 17 ∧ ci = 4)) (hv : gT m v = ci + 1) (hi : vp_in i (gN m a)) (kk : EvB G d u z0 n0 r mF (pc + 1) lv st (sAP m a i.toNatClampNeg (some v))) : EvB G d u z0 n0 r mF pc lv (.ref v :: .int i :: .ref a :: st) m :=
  ev_wr kk rfl rfl (fun F hr hL w => by
    have h2 : t = 16 ∨ t = 17 := by omega
    have K := F.2.2.2.2.2.2.2.2
    have hq : ∃ q : vw_C, vwCl[ci]? = some q ∧ tyA t = .object q.1 := by
      rcases h1 with ⟨rfl, rfl⟩ | ⟨rfl, rfl⟩
      · exact ⟨_, rfl, rfl⟩
      · exact ⟨_, rfl, rfl⟩
    obtain ⟨q, hc, hty⟩ := hq
    have hcls := (K.1.1 ci q hc).2
    have hRA := (TY_at K (t := t) ⟨by omega, by omega⟩).2
    rw [hty] at hRA
    obtain ⟨kA, comp, k1, k2, k3, -⟩ := hRA
    have hcomp : comp = G.2.1.1 ci := Option.some.inj (k3.symm.trans hcls.1)
    subst hcomp
    obtain ⟨kC, hkC, -⟩ := hcls.2
    obtain ⟨r', hr', cellV, g1, g2, g3, -⟩ := hr.at (cO_obj hv (by omega))
    have h0 : ¬ i < 0 := fun z => hi (Or.inl z)
    refine W.aast F.1 F.2.1 (hr.at (cO_ref ht h2)) (fun q h => by cases h) (fun h => by cases h) k1 k2 rfl hkC ⟨h0, by show _ < (arrV _ _ _).slots.size; rw [arrV_size]; exact vp_in_lt hi⟩ g1 (fun q h => by rw [g3] at h; cases h) (by rw [g2]; exact hkC) (by rw [g2]; exact va_assign hcls) rfl rfl hd fun H1 e1 e2 e3 => w H1 _ ?_ (fun y hy => (List.mem_append.mp hy).elim (hL y) (fun h => by rw [List.mem_singleton.mp h]; exact hr.2.2 a (by omega) (by omega)))
    refine hr.set rfl rfl (a := a) (fun b hb => cO_oth rfl rfl (fun f => ⟨rfl, rfl, rfl⟩) rfl rfl (by funext q; exact u2_nf _ _ hb)) (cO_ref (m := sAP m a i.toNatClampNeg (some v)) ht h2) ?_ e2 e3
    show H1[a]? = some (vp_cell _ (gN m a, .inr (.inr (.inr (.inr (aP (sAP m a i.toNatClampNeg (some v)) a))))))
    rw [e1]
    show some ((arrV _ _ _).setSlot _ _) = _
    rw [vp_cell_q, arrV_store]
    congr 2
    funext q
    show updV _ _ _ q = va_rf (u2 (aP m) a i.toNatClampNeg (some v) a q)
    by_cases hq : q = i.toNatClampNeg <;> simp [updV, u2, hq, va_rf])
/-- a step that makes a cell -/
theorem ev_nw {pc' t n : Nat} {st' : List Value} (k : EvB G d u z0 n0 r mF pc' lv st' (nw m t n))
    (h : ∀ {p : Program} {e : Env} {R : Room} {s : State} {q : MethodId} {args : Array Value} {below : List Frame} {meth : Method} {c : Code} {Q : State → Prop} {H : Heap} {ls : Array Slot} {locs : List Loc} {cells slots : Nat}, Fx G u p s q args meth c → Rep G m H → cells + 1 ≤ R.cells → slots + n ≤ R.slots → G.2.2.1 ≤ zz m → (∀ H1 : Heap, Rep G (nw m t n) H1 → W p G.1 e R s q args below meth c H1 locs (cells + 1) (slots + n) Q (F0 q pc' ls st')) → W p G.1 e R s q args below meth c H locs cells slots Q (F0 q pc ls st)) :
    EvB G d u z0 n0 r mF pc lv st m := by
  have hz : zz (nw m t n) = zz m + 1 := rfl
  have hn : nn (nw m t n) = nn m + n := rfl
  obtain ⟨k1, k2⟩ := k
  rw [hz, hn] at k1
  refine ⟨⟨by omega, by omega⟩, fun p e R s q args below meth c Q F hR hQ hB h1 h2 H ls locs hr hl hL => ?_⟩
  obtain ⟨-, -, hR3, hR4⟩ := id hR
  refine h F hr (by omega) (by omega) (by omega) (fun H1 hr1 => ?_)
  have w := k2 p e R s q args below meth c Q F hR hQ hB (by rw [hz]; omega) (by rw [hn]; omega) H1 ls locs hr1 hl hL
  rw [hz, hn, show zz m + 1 - z0 = zz m - z0 + 1 by omega, show nn m + n - n0 = nn m - n0 + n by omega] at w
  exact w
theorem dfl_ok : ∀ ci, ci < 7 → ∀ j, j < (kX ci).length → defaultValue (tyC ci j) = fV (nw (fun _ => 0, fun _ => 0, fun _ _ => 0, fun _ _ => 0, fun _ _ => none, fun _ _ => 0, fun _ _ => 0, fun _ _ => none, 0, 0) 0 0) ci j 0 ((kX ci).getD j 0) := by
  intro ci hci j hj
  match ci, hci with
  | 0, _ => (rcases (show j = 0 ∨ j = 1 ∨ j = 2 ∨ j = 3 ∨ j = 4 ∨ j = 5 ∨ j = 6 ∨ j = 7 ∨ j = 8 ∨ j = 9 ∨ j = 10 ∨ j = 11 by simp [kX] at hj; omega) with rfl | rfl | rfl | rfl | rfl | rfl | rfl | rfl | rfl | rfl | rfl | rfl) <;> rfl
  | 1, _ => (rcases (show j = 0 ∨ j = 1 by simp [kX] at hj; omega) with rfl | rfl) <;> rfl
  | 2, _ => (rcases (show j = 0 ∨ j = 1 by simp [kX] at hj; omega) with rfl | rfl) <;> rfl
  | 3, _ => (rcases (show j = 0 ∨ j = 1 by simp [kX] at hj; omega) with rfl | rfl) <;> rfl
  | 4, _ => (rcases (show j = 0 ∨ j = 1 ∨ j = 2 ∨ j = 3 ∨ j = 4 ∨ j = 5 ∨ j = 6 ∨ j = 7 ∨ j = 8 ∨ j = 9 ∨ j = 10 ∨ j = 11 ∨ j = 12 ∨ j = 13 ∨ j = 14 ∨ j = 15 ∨ j = 16 ∨ j = 17 ∨ j = 18 by simp [kX] at hj; omega) with rfl | rfl | rfl | rfl | rfl | rfl | rfl | rfl | rfl | rfl | rfl | rfl | rfl | rfl | rfl | rfl | rfl | rfl | rfl) <;> rfl
  | 5, _ => (rcases (show j = 0 ∨ j = 1 ∨ j = 2 ∨ j = 3 ∨ j = 4 ∨ j = 5 ∨ j = 6 by simp [kX] at hj; omega) with rfl | rfl | rfl | rfl | rfl | rfl | rfl) <;> rfl
  | 6, _ => (rcases (show j = 0 ∨ j = 1 ∨ j = 2 ∨ j = 3 ∨ j = 4 ∨ j = 5 ∨ j = 6 ∨ j = 7 by simp [kX] at hj; omega) with rfl | rfl | rfl | rfl | rfl | rfl | rfl | rfl) <;> rfl
theorem nw_new (m : Mem) (t n ci j w : Nat) : fV (nw m t n) ci j (zz m) w = fV (nw (fun _ => 0, fun _ => 0, fun _ _ => 0, fun _ _ => 0, fun _ _ => none, fun _ _ => 0, fun _ _ => 0, fun _ _ => none, 0, 0) 0 0) ci j 0 w := by
  match w with
  | 0 => simp [fV, nw, gI, z2, zz]
  | 1 => simp [fV, nw, gL, z2, zz]
  | n + 2 => simp [fV, nw, gP, z2, zz]
theorem nw_gT (m : Mem) (t n : Nat) : gT (nw m t n) (zz m) = t := by simp [nw, gT, va_up]
theorem nw_gN (m : Mem) (t n : Nat) : gN (nw m t n) (zz m) = n := by simp [nw, gN, va_up]
theorem e_new {i ci : Nat} {q : vw_C} (hd : decode u.2.1 pc = .ok (.new i, 3)) (hc : vwCl[ci]? = some q) (hl : Cond.classLink u.1.cls i q.1 ∈ lw_g) (hi : Cond.instantiable q.1 q.2.2 ∈ lw_g) (hini : Cond.initialized q.1 ∈ lw_g)
    (kk : EvB G d u z0 n0 r mF (pc + 3) lv (.ref (zz m) :: st) (nw m (ci + 1) q.2.2)) : EvB G d u z0 n0 r mF pc lv st m :=
  ev_nw kk (fun F hr h1 h2 hB w => by
    obtain ⟨C, T, N⟩ := q
    obtain ⟨hin, hty, hnm, hN, h7⟩ := cls_ok hc
    have K := F.2.2.2.2.2.2.2.2
    have hts := F.2.2.2.2.2.2.2.1
    have hKn := K.1.1 ci _ hc
    refine W.newcK F.1 F.2.1 F.2.2.2.2.2.1 (hts _ hl) (hts _ hi) (hts _ hini) rfl hd h1 h2 hKn.2.1 hr.1 fun H1 kC hkC e1 z1 o1 => ?_
    refine w H1 (hr.push (cO_obj (nw_gT _ _ _) h7) ⟨_, hc, (u_born _ hts hin hKn hkC e1 hty).to (fun j hj => ?_)⟩ hB (by rw [z1, hr.1]) (by rw [hr.1]; exact o1))
    have hj' : j < (kX ci).length := by rw [← hN]; exact hj
    show _ = (fO _ _ _).getD j .null
    rw [List.getD_eq_getElem?_getD, fO_get _ _ _ hj', nw_new, ← dfl_ok ci h7 j hj']
    rfl)
theorem e_newa {ty : ArrayType} {t N : Nat} {n : Int32} (hd : decode u.2.1 pc = .ok (.newarray ty, 2)) (hw : Cond.arrayClass (newarray.typeOf ty) ∈ lw_g) (ht : (t = 11 ∨ t = 12 ∨ t = 14 ∨ t = 15 ∨ t = 13) ∧ newarray.typeOf ty = tyA t) (hn : ¬ n < 0) (hN : n.toNatClampNeg = N) (hb : N * 8 ≤ 536870912)
    (kk : EvB G d u z0 n0 r mF (pc + 2) lv (.ref (zz m) :: st) (nw m t N)) : EvB G d u z0 n0 r mF pc lv (.int n :: st) m :=
  ev_nw kk (fun F hr h1 h2 hB w => by
    have K := F.2.2.2.2.2.2.2.2
    have hts := F.2.2.2.2.2.2.2.1
    obtain ⟨ht1, ht2⟩ := ht
    have hbb : N * componentBytes (newarray.typeOf ty) ≤ 536870912 := by
      rw [ht2]
      rcases ht1 with rfl | rfl | rfl | rfl | rfl <;> simp only [tyA, componentBytes] <;> omega
    refine va_newaK F.1 F.2.1 (hts _ hw) rfl hd rfl hn hN hbb h1 h2 hr.1 fun H1 cA e1 z1 o1 hAr hNm => ?_
    have hRA := (TY_at K (t := t) ⟨by omega, by omega⟩).2
    have hcA : cA = G.2.2.2 t := by
      rw [ht2] at hNm
      rcases ht1 with rfl | rfl | rfl | rfl | rfl <;> exact Option.some.inj (hNm.symm.trans hRA)
    subst hcA
    rw [ht2] at e1
    have hc : ∃ x : va_E, cO G (nw m t N) (zz m) = some x ∧ va_at G.2.1 vwCl (zz m, x) H1 := by
      rcases (show (t = 11 ∨ t = 12 ∨ t = 14 ∨ t = 15) ∨ t = 13 by omega) with h | h
      · refine ⟨_, cO_int (nw_gT _ _ _) h, ?_⟩
        show H1[zz m]? = some (vp_cell _ _)
        rw [e1, vp_cell_i, nw_gN]
        congr 2
        funext q
        have : aI (nw m t N) (zz m) q = 0 := by simp [nw, aI, zr]
        rw [this]
        rcases h with rfl | rfl | rfl | rfl <;> rfl
      · subst h
        refine ⟨_, cO_lng (nw_gT _ _ _), ?_⟩
        show H1[zz m]? = some (vp_cell _ _)
        rw [e1, vp_cell_l, nw_gN]
        congr 2
        funext q
        have : aL (nw m 13 N) (zz m) q = 0 := by simp [nw, aL, zr]
        rw [this]
        rfl
    obtain ⟨x, hx1, hx2⟩ := hc
    exact w H1 (hr.push hx1 hx2 hB (by rw [z1, hr.1]) (by rw [hr.1]; exact o1)))
theorem e_anew {i t N : Nat} {C : String} {n : Int32} (hd : decode u.2.1 pc = .ok (.anewarray i, 3)) (hl : Cond.classLink u.1.cls i C ∈ lw_g) (hw : Cond.arrayOver (.object C) ∈ lw_g) (ht : (t = 16 ∨ t = 17) ∧ FieldType.object C = tyA t) (hn : ¬ n < 0) (hN : n.toNatClampNeg = N) (hb : N * 4 ≤ 536870912)
    (kk : EvB G d u z0 n0 r mF (pc + 3) lv (.ref (zz m) :: st) (nw m t N)) : EvB G d u z0 n0 r mF pc lv (.int n :: st) m :=
  ev_nw kk (fun F hr h1 h2 hB w => by
    have K := F.2.2.2.2.2.2.2.2
    have hts := F.2.2.2.2.2.2.2.1
    obtain ⟨ht1, ht2⟩ := ht
    subst hN
    refine W.anew F.1 F.2.1 F.2.2.2.2.2.1 (hts _ hl) (hts _ hw) rfl hd rfl hn hb h1 h2 fun cA kA comp f1 f2 f3 f4 => ?_
    have hRA := (TY_at K (t := t) ⟨by omega, by omega⟩).2
    rw [← ht2] at hRA
    obtain ⟨kA', comp', -, -, -, k4⟩ := hRA
    have hcA : cA = G.2.2.2 t := Option.some.inj (f1.symm.trans k4)
    subst hcA
    rw [show Array.size _ = zz m from hr.1]
    refine w _ (hr.push (cO_ref (nw_gT _ _ _) ht1) ?_ hB (by simp) (fun q hq => by rw [Array.getElem?_push, if_neg (Nat.ne_of_lt hq)]))
    show (Array.push _ _)[zz m]? = some (vp_cell _ _)
    rw [← hr.1, Array.getElem?_push_size, arrV_new, vp_cell_q, hr.1, nw_gN]
    congr 2
    funext q
    have : aP (nw m t n.toNatClampNeg) (zz m) q = none := by simp [nw, aP, zr]
    rw [this]
    rfl)
end Rows4
