/-! a method's contract over the plain memory, and calls -/
def Pcc (G : GG) (args : List Value) (m : Mem) : Array Value → State → Prop := fun v U => v = args.toArray ∧ Rep G m U.heap ∧ KK G U ∧ G.2.2.1 ≤ zz m
def Qcc (G : GG) (r : Option Value) (mF : Mem) : Array Value → State → Outcome → State → Prop := fun _ _ oc t => oc = .returned r ∧ Rep G mF t.heap ∧ KK G t
def rmE (d c n : Nat) : Room := { frames := d + 1, cells := c, slots := n, locals := 35 * (d + 1) }
/-- Ev G d u args m r mF: called with args where the memory is m, method u returns r, and the memory is mF -/
def Ev (G : GG) (d : Nat) (u : MI) (args : List Value) (m : Mem) (r : Option Value) (mF : Mem) : Prop :=
  (zz m ≤ zz mF ∧ nn m ≤ nn mF) ∧ Met G.1 u.1 (Cond.code u.1 u.2.1 u.2.2.1 u.2.2.2 :: lw_g) (rmE d (zz mF - zz m) (nn mF - nn m)) (Pcc G args m) (Qcc G r mF) (zz mF - zz m) (nn mF - nn m) (fun q => G.2.2.1 ≤ q)
theorem retOK {G : GG} {u : MI} {z0 n0 : Nat} {r : Option Value} {mF : Mem} {p : Program} {e : Env} {R : Room} {s : State} {q : MethodId} {args : Array Value} {below : List Frame} {meth : Method} {c : Code} (F : Fx G u p s q args meth c) : RetOK G u z0 n0 r mF p e R s q args below meth c (MQ below (Qcc G r mF) args s (zz mF - z0) (nn mF - n0) (fun x => G.2.2.1 ≤ x)) := by
  intro i st pc H ls locs hI hd hr hL
  have hq : ∀ t : State, t.heap = H → s.WarmedH t.vm → Qcc G r mF args s (.returned r) t := fun t h1 h2 => ⟨rfl, by rw [h1]; exact hr, KK.moved h2.alike F.2.2.2.2.2.2.2.2⟩
  have hlocks := F.2.2.2.2.1
  rcases hI with ⟨rfl, h1, rfl, rfl⟩ | ⟨v, ty, rfl, h1, h2, rfl, rfl⟩ | ⟨v, rfl, h1, rfl, rfl⟩ | ⟨v, ty, rfl, h1, h2, rfl, rfl⟩
  · exact W.vret F.1 F.2.1 (F.2.2.1.trans h1) hq hL hd hlocks
  · exact W.zret F.1 F.2.1 (F.2.2.1.trans h1) h2 hq hL hd hlocks
  · exact W.lret F.1 F.2.1 (F.2.2.1.trans h1) hq hL hd hlocks
  · exact W.aret F.1 F.2.1 (F.2.2.1.trans h1) h2 (by cases v with | none => exact Or.inl rfl | some a => exact Or.inr ⟨a, rfl⟩) hq hL hd hlocks
/-- a contract out of a walk from the entry -/
theorem Ev.of {G : GG} {d : Nat} {u : MI} {args : List Value} {m : Mem} {r : Option Value} {mF : Mem} (hy : plainName u.1.cls = true) (hlen : (lg_sl args).length ≤ u.2.2.1) (k : EvB G d u (zz m) (nn m) r mF 0 (lv_args 0 args) [] m) : Ev G d u args m r mF := by
  refine ⟨k.1, ?_⟩
  refine Met.ofW (cc := u.2.1) (maxL := u.2.2.1) (ret := u.2.2.2) hy rfl ?_
  intro p e s q as below meth c s₁ B hml hv
  obtain ⟨rfl, hr, hK, hB⟩ := hv
  have hts := atoms_spec (ws := Cond.code u.1 u.2.1 u.2.2.1 u.2.2.2 :: lw_g) B.pre
  have hown : s.vm.findClass u.1.cls = some q.cls := findClass_of_methodNamed B.named
  have F : Fx G u p s q args.toArray meth c := ⟨B.exec, B.bytes, B.returns, hml, B.notSynchronized, hown, (name_of_methodNamed B.named B.method).1, fun w hw => hts w (List.mem_cons_of_mem _ hw), hK⟩
  rw [lg_entry_eq]
  have w := k.2 p e (rmE d (zz mF - zz m) (nn mF - nn m)) s q args.toArray below meth c _ F ⟨Nat.le_refl _, Nat.le_refl _, by show zz mF ≤ zz m + (zz mF - zz m); omega, by show nn mF ≤ nn m + (nn mF - nn m); omega⟩ (retOK F) hB (Nat.le_refl _) (Nat.le_refl _) s.heap _ [] hr (lv_entry args hlen) (fun x h => absurd h List.not_mem_nil)
  rw [Nat.sub_self, Nat.sub_self] at w
  exact w
theorem blindP {G : GG} {args : List Value} {m : Mem} : FrameBlind (Pcc G args m) := fun a U g mk h => ⟨h.1, h.2.1, KK.moved (u := U) (U := U.calling g mk a) (Vm.Alike.refl U.vm) h.2.2.1, h.2.2.2⟩
/-- what the tables say of a call's method -/
def CM (u : MI) (n : Nat) : Prop := Cond.code u.1 u.2.1 u.2.2.1 u.2.2.2 ∈ lw_g ∧ Cond.initialized u.1.cls ∈ lw_g ∧ (u.1.cls ≠ "java/lang/invoke/MethodHandle" ∧ u.1.cls ≠ "java/lang/invoke/VarHandle") ∧ (parseMethodDescriptor u.1.desc).map (fun d => d.parameters.length) = some n ∧ u.2.2.1 ≤ 16
def LK (own : String) (i : Nat) (y : MethodName) : Prop := Cond.methodLink own i y ∈ lw_g ∨ ∃ host : String, Cond.methodLinkNest own i y host ∈ lw_g
section Rows5
variable {G : GG} {d : Nat} {u : MI} {z0 n0 : Nat} {r : Option Value} {mF : Mem} {pc : Nat} {lv : List (Nat × Value)} {st : List Value} {m : Mem}
/-- a call has run: on with the walk -/
theorem ev_call {d' : Nat} {u' : MI} {as : List Value} {r' : Option Value} {m' : Mem} {st0 st1 : List Value} (hE : Ev G d' u' as m r' m') (hdd : d' < d) (hst : r'.toList ++ st = st1) (k : EvB G d u z0 n0 r mF (pc + 3) lv st1 m')
    (h : ∀ {p : Program} {e : Env} {R : Room} {s : State} {q : MethodId} {args : Array Value} {below : List Frame} {meth : Method} {c : Code} {H : Heap} {ls : Array Slot} {locs : List Loc} {cells slots : Nat}, Fx G u p s q args meth c → Rep G m H → lv_has ls u.2.2.1 lv → G.2.2.1 ≤ zz m → d' + 2 ≤ R.frames → 35 * (d' + 2) ≤ R.locals → cells + (zz m' - zz m) ≤ R.cells → slots + (nn m' - nn m) ≤ R.slots →
      va_Run p G.1 e R s q args below meth c H locs cells slots (zz m' - zz m) (nn m' - nn m) (F0 q pc ls st0) st (Qcc G r' m' as.toArray) (fun x => G.2.2.1 ≤ x)) :
    EvB G d u z0 n0 r mF pc lv st0 m := by
  obtain ⟨⟨k1, k1'⟩, k2⟩ := k
  obtain ⟨⟨e1, e1'⟩, -⟩ := hE
  subst hst
  refine ⟨⟨by omega, by omega⟩, fun p e R s q args below meth c Q F hR hQ hB h1 h2 H ls locs hr hl hL => ?_⟩
  obtain ⟨hR1, hR2, hR3, hR4⟩ := id hR
  have hrun := h (e := e) (R := R) (below := below) (locs := locs) (cells := zz m - z0) (slots := nn m - n0) F hr hl (by omega) (by omega) (by omega) (by omega) (by omega)
  intro T hT X
  obtain ⟨v, st₀, t, T', L, -, X', hLf, f1, f2, ⟨hv, hr', hK'⟩, hs⟩ := hrun T hT X
  have hv' : v = r' := by cases hv; rfl
  subst hv'
  have w := k2 p e R s q args below meth c Q F hR hQ hB (by omega) (by omega) T'.heap ls (locs ++ L) (by rw [f1]; exact hr') hl (fun x hx => (List.mem_append.mp hx).elim (hL x) (hLf x))
  rw [show zz m' - z0 = zz m - z0 + (zz m' - zz m) by omega, show nn m' - n0 = nn m - n0 + (nn m' - nn m) by omega] at w
  obtain ⟨t2, a1, b1⟩ := w T' rfl X'
  exact ⟨t2, hs t2 a1, b1⟩
theorem cm_len {u' : MI} {n : Nat} (h : CM u' n) : ∀ sig, parseMethodDescriptor u'.1.desc = some sig → n = sig.parameters.length := fun sig hs => by
  have h2 := h.2.2.2.1
  rw [hs] at h2
  exact (Option.some.inj h2).symm
/-- invokevirtual of a method that the receiver's class has itself -/
theorem e_callV {d' : Nat} {u' : MI} {i b ci n : Nat} {q0 : vw_C} {As : List Value} {r' : Option Value} {m' : Mem} {st0 st1 : List Value} (hE : Ev G d' u' (.ref b :: As) m r' m') (hd : decode u.2.1 pc = .ok (.invokevirtual i, 3)) (hdd : d' < d) (hm : CM u' n) (hl : LK u.1.cls i u'.1) (hi : Cond.instanceMethod u'.1 ∈ lw_g) (hc : vwCl[ci]? = some q0) (hs : Cond.selects q0.1 u'.1 u'.1 ∈ lw_g) (ht : gT m b = ci + 1) (hn : As.length = n) (hst0 : st0 = As.reverse ++ .ref b :: st) (hw : (st.map fun v => v.category).sum ≤ 8) (hst : r'.toList ++ st = st1) (k : EvB G d u z0 n0 r mF (pc + 3) lv st1 m') : EvB G d u z0 n0 r mF pc lv st0 m :=
  ev_call hE hdd hst k (fun F hr hls hB hf1 hf2 hf3 hf4 => by
    have hts := F.2.2.2.2.2.2.2.1
    obtain ⟨-, -, -, -, h7⟩ := cls_ok hc
    have hat := hr.at (cO_obj ht h7)
    have hP : va_P G.2.1 vwCl [(b, .inr (ci, fO m ci b))] _ := fun j x hx => by
      match j, hx with
      | 0, hx => cases hx; exact hat
    have hrecv := va_recv F.2.2.2.2.2.2.2.2.1 hP hc (q0 := 0) rfl
    have hcode : Cond.code u'.1 u'.2.1 u'.2.2.1 u'.2.2.2 ∈ (Cond.code u'.1 u'.2.1 u'.2.2.1 u'.2.2.2 :: lw_g) := List.mem_cons_self
    have hws : ∀ w ∈ (Cond.code u'.1 u'.2.1 u'.2.2.1 u'.2.2.2 :: lw_g), ∀ (a' : Array Value) (U : State), _ → w.before a' U = true := fun w hw a' U hW => (List.mem_cons.mp hw).elim (fun e => e ▸ warm_g hW hts _ hm.1) (fun h => warm_g hW hts _ h)
    have hpre : PreV _ _ q0.1 b (Pcc G (.ref b :: As) m) As := ⟨blindP, hrecv, fun U h1 h2 => ⟨rfl, by rw [h1]; exact hr, KK.moved h2.alike F.2.2.2.2.2.2.2.2, hB⟩⟩
    have hmx := hm.2.2.2.2
    rcases hl with hl | ⟨host, hl⟩
    · exact va_runV (As := As) (rest := st) ⟨F.1, F.2.1, F.2.2.2.1, F.2.2.2.2.2.1, hts⟩ hE.2 ⟨⟨rfl, rfl, by show d' + 1 + 1 ≤ _; omega, by show 8 + (_ + 11) + 35 * (d' + 1) ≤ _; omega, hws, hcode, hts _ hm.1, hts _ hm.2.1, hm.2.2.1, cm_len hm, hts _ hl⟩, hts _ hi, hts _ hs⟩ hpre rfl hn hls.1 hst0 (by show 2 * 0 + _ ≤ 8; omega) hd ⟨hf3, hf4⟩
    · exact va_runVN (As := As) (rest := st) ⟨F.1, F.2.1, F.2.2.2.1, F.2.2.2.2.2.1, hts⟩ hE.2 ⟨⟨⟨rfl, rfl, by show d' + 1 + 1 ≤ _; omega, by show 8 + (_ + 11) + 35 * (d' + 1) ≤ _; omega, hws, hcode⟩, hts _ hm.1, hts _ hm.2.1, hm.2.2.1, cm_len hm, hts _ hl⟩, hts _ hi, hts _ hs⟩ hpre rfl hn hls.1 hst0 (by show 2 * 0 + _ ≤ 8; omega) hd ⟨hf3, hf4⟩)
/-- invokestatic -/
theorem e_callS {d' : Nat} {u' : MI} {i n : Nat} {As : List Value} {r' : Option Value} {m' : Mem} {st0 st1 : List Value} (hE : Ev G d' u' As m r' m') (hd : decode u.2.1 pc = .ok (.invokestatic i, 3)) (hdd : d' < d) (hm : CM u' n) (hl : LK u.1.cls i u'.1) (hi : Cond.static u'.1 ∈ lw_g) (hn : As.length = n) (hst0 : st0 = As.reverse ++ st) (hw : (st.map fun v => v.category).sum ≤ 8) (hst : r'.toList ++ st = st1) (k : EvB G d u z0 n0 r mF (pc + 3) lv st1 m') : EvB G d u z0 n0 r mF pc lv st0 m :=
  ev_call hE hdd hst k (fun F hr hls hB hf1 hf2 hf3 hf4 => by
    have hts := F.2.2.2.2.2.2.2.1
    have hcode : Cond.code u'.1 u'.2.1 u'.2.2.1 u'.2.2.2 ∈ (Cond.code u'.1 u'.2.1 u'.2.2.1 u'.2.2.2 :: lw_g) := List.mem_cons_self
    have hws : ∀ w ∈ (Cond.code u'.1 u'.2.1 u'.2.2.1 u'.2.2.2 :: lw_g), ∀ (a' : Array Value) (U : State), _ → w.before a' U = true := fun w hw a' U hW => (List.mem_cons.mp hw).elim (fun e => e ▸ warm_g hW hts _ hm.1) (fun h => warm_g hW hts _ h)
    have hpre : PreS _ _ (Pcc G As m) As := ⟨blindP, fun U h1 h2 => ⟨rfl, by rw [h1]; exact hr, KK.moved h2.alike F.2.2.2.2.2.2.2.2, hB⟩⟩
    have hmx := hm.2.2.2.2
    rcases hl with hl | ⟨host, hl⟩
    · exact va_runS (As := As) (rest := st) ⟨F.1, F.2.1, F.2.2.2.1, F.2.2.2.2.2.1, hts⟩ hE.2 ⟨⟨rfl, rfl, by show d' + 1 + 1 ≤ _; omega, by show 8 + (_ + 11) + 35 * (d' + 1) ≤ _; omega, hws, hcode, hts _ hm.1, hts _ hm.2.1, hm.2.2.1, cm_len hm, hts _ hl⟩, hts _ hi⟩ hpre rfl hn hls.1 hst0 (by show 2 * 0 + _ ≤ 8; omega) hd ⟨hf3, hf4⟩
    · exact va_runSN (As := As) (rest := st) ⟨F.1, F.2.1, F.2.2.2.1, F.2.2.2.2.2.1, hts⟩ hE.2 ⟨⟨⟨rfl, rfl, by show d' + 1 + 1 ≤ _; omega, by show 8 + (_ + 11) + 35 * (d' + 1) ≤ _; omega, hws, hcode⟩, hts _ hm.1, hts _ hm.2.1, hm.2.2.1, cm_len hm, hts _ hl⟩, hts _ hi, trivial⟩ hpre rfl hn hls.1 hst0 (by show 2 * 0 + _ ≤ 8; omega) hd ⟨hf3, hf4⟩)
/-- invokespecial of a constructor -/
theorem e_callI {d' : Nat} {u' : MI} {i b n : Nat} {As : List Value} {m' : Mem} {st0 : List Value} (hE : Ev G d' u' (.ref b :: As) m none m') (hd : decode u.2.1 pc = .ok (.invokespecial i, 3)) (hdd : d' < d) (hm : CM u' n) (hret : u'.2.2.2 = none) (hnm : u'.1.name = "<init>") (hl : LK u.1.cls i u'.1) (hi : Cond.instanceMethod u'.1 ∈ lw_g) (hn : As.length = n) (hst0 : st0 = As.reverse ++ .ref b :: st) (hw : (st.map fun v => v.category).sum ≤ 8) (k : EvB G d u z0 n0 r mF (pc + 3) lv st m') : EvB G d u z0 n0 r mF pc lv st0 m :=
  ev_call hE hdd (st := st) rfl k (fun F hr hls hB hf1 hf2 hf3 hf4 => by
    obtain ⟨y, cc, mx, rt⟩ := u'
    dsimp only at hret
    subst hret
    have hts := F.2.2.2.2.2.2.2.1
    have hcode : Cond.code y cc mx none ∈ (Cond.code y cc mx none :: lw_g) := List.mem_cons_self
    have hws : ∀ w ∈ (Cond.code y cc mx none :: lw_g), ∀ (a' : Array Value) (U : State), _ → w.before a' U = true := fun w hw a' U hW => (List.mem_cons.mp hw).elim (fun e => e ▸ warm_g hW hts _ hm.1) (fun h => warm_g hW hts _ h)
    have hpre : PreS _ _ (Pcc G (.ref b :: As) m) (.ref b :: As) := ⟨blindP, fun U h1 h2 => ⟨rfl, by rw [h1]; exact hr, KK.moved h2.alike F.2.2.2.2.2.2.2.2, hB⟩⟩
    have hmx := hm.2.2.2.2
    dsimp only at hmx
    rcases hl with hl | ⟨host, hl⟩
    · exact va_runI (As := As) (rest := st) ⟨F.1, F.2.1, F.2.2.2.1, F.2.2.2.2.2.1, hts⟩ hE.2 ⟨⟨rfl, rfl, by show d' + 1 + 1 ≤ _; omega, by show 8 + (_ + 11) + 35 * (d' + 1) ≤ _; omega, hws, hcode, hts _ hm.1, hts _ hm.2.1, hm.2.2.1, cm_len hm, hts _ hl⟩, hnm, hts _ hi⟩ hpre rfl hn hls.1 hst0 (by show 2 * 0 + _ ≤ 8; omega) hd ⟨hf3, hf4⟩
    · exact va_runIN (As := As) (rest := st) ⟨F.1, F.2.1, F.2.2.2.1, F.2.2.2.2.2.1, hts⟩ hE.2 ⟨⟨⟨rfl, rfl, by show d' + 1 + 1 ≤ _; omega, by show 8 + (_ + 11) + 35 * (d' + 1) ≤ _; omega, hws, hcode⟩, hts _ hm.1, hts _ hm.2.1, hm.2.2.1, cm_len hm, hts _ hl⟩, hnm, hts _ hi⟩ hpre rfl hn hls.1 hst0 (by show 2 * 0 + _ ≤ 8; omega) hd ⟨hf3, hf4⟩)
/-- Object's own constructor does nothing -/
theorem e_objInit {i a : Nat} (hd : decode u.2.1 pc = .ok (.invokespecial i, 3)) (hl : Cond.methodLink u.1.cls i objectInit ∈ lw_g) (hi : Cond.instanceMethod objectInit ∈ lw_g) (hc : Cond.code objectInit ⟨#[0xb1]⟩ 1 none ∈ lw_g) (hw : (st.map fun v => v.category).sum ≤ 8) (k : EvB G d u z0 n0 r mF (pc + 3) lv st m) : EvB G d u z0 n0 r mF pc lv (.ref a :: st) m :=
  ⟨k.1, fun p e R s q args below meth c Q F hR hQ hB h1 h2 H ls locs hr hls hL => by
    have hts := F.2.2.2.2.2.2.2.1
    obtain ⟨hR1, hR2, -, -⟩ := id hR
    exact W.objInit F.1 F.2.1 F.2.2.2.2.2.1 (hts _ hl) (hts _ hi) (hts _ hc) rfl (by rw [F.2.2.2.1]; exact hls.1) rfl hd (by omega) (by show 2 * 0 + _ + 12 ≤ _; omega) (k.2 p e R s q args below meth c Q F hR hQ hB h1 h2 H ls locs hr hls hL)⟩
end Rows5
