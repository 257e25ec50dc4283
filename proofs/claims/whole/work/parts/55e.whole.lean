/-! THE CLAIM OUT OF ONE WALK OF THE LAW'S BODY. Your part is whole_start (and what it stands on); all else here is the same for every law, but numbers. -/
def R_law : String := "FairWheelLaw"
def lw_P (b : Addr) (xs : List Int32) (args : Array Value) (s : State) : Prop := args = #[.ref b] ∧ s.IntsAt b xs ∧ xs.length ≤ 2560 ∧ (Jvm.Cond.and given_1 narrow_1).before args s = true
def lw_Q (_ : Array Value) (s : State) (o : Outcome) (t : State) : Prop := o = .returned (some (.int 1)) ∧ Framed s o t [] room_1.cells room_1.slots
def lw_Z (below : List Frame) (a : Array Value) (s : State) : State → Prop := fun t => ∃ o, t.status = .running ∧ Ended t below o ∧ lw_Q a s o t
/-- the law's own end, with 1 on the stack, nothing written that was there before, its room as the claim has it -/
theorem lw_ret {p : Program} {l : Launch} {e : Env} {s : State} {m : MethodId} {below : List Frame} {meth : Method} {c : Code} {b : Nat} (hx : p.tables.exec = Jvm.exec) (hb : c.code = code) (hr : meth.sig.returnType = ret) (hlocks : meth.locks = false) {pc : Nat} {H : Heap} {ls : Array Slot} (hdg : decode code pc = .ok (.ireturn, 1)) : W p l e room_1 s m #[Value.ref b] below meth c H [] room_1.cells room_1.slots (lw_Z below #[Value.ref b] s) (F0 m pc ls [.int 1]) := by
  intro T hT X
  obtain ⟨fs, hret, hrun, hended, hW, hframe⟩ := X.leave (v := some (.int 1)) (hlocks := hlocks) (fun h => by rw [hr] at h; cases h)
  have hmeth' : T.vm.method? m = some meth := X.method'
  refine ⟨T.setFrames fs, ?_, .returned (some (.int 1)), hrun, hended, rfl, ⟨_, rfl⟩, hW, hframe⟩
  jvm_step X.here [X.here.top, hx, hb, hdg, hmeth', hr, ret, narrow_b1]
  (try refine ⟨rfl, ?_⟩); (try refine ⟨rfl, ?_⟩)
  first | (intro acts; rw [hret _ acts rfl rfl rfl]) | rw [hret _ _ rfl rfl rfl]
  exact Steps.refl _
/-- what holds at the law's entry: the machine, the code, the tables' words (any of lw_tbl by 'hts w (by decide +kernel)'), the script of L ints xs at the cell b, what the Statement gives of the start (any of its parts by flat_of_before) -/
def lw_At (p : Program) (s : State) (m : MethodId) (meth : Method) (c : Code) (b L : Nat) (xs : Nat → Int32) : Prop :=
  p.tables.exec = Jvm.exec ∧ c.code = code ∧ meth.sig.returnType = ret ∧ c.maxLocals = 4 ∧ s.vm.findClass R_law = some m.cls ∧ (∀ w ∈ lw_tbl, w.before #[Value.ref b] s = true) ∧ va_X b L xs s s.heap ∧ b < s.heap.size ∧ meth.locks = false ∧ (Jvm.Cond.and given_1 narrow_1).before #[Value.ref b] s = true ∧ meth.name = "law"
/-- the memory at the start: the script alone -/
def mS (b L z : Nat) (xs : Nat → Int32) : Mem := (fun a => if a = b then 18 else 0, fun a => if a = b then L else 0, fun _ _ => 0, fun _ _ => 0, fun _ _ => none, fun a => if a = b then xs else fun _ => 0, fun _ _ => 0, fun _ _ => none, z, 0)
theorem mS_f (b L z : Nat) (xs : Nat → Int32) : gT (mS b L z xs) b = 18 ∧ gN (mS b L z xs) b = L ∧ aI (mS b L z xs) b = xs ∧ zz (mS b L z xs) = z ∧ nn (mS b L z xs) = 0 ∧ ∀ a, a ≠ b → gT (mS b L z xs) a = 0 := ⟨if_pos rfl, if_pos rfl, if_pos rfl, rfl, rfl, fun a h => if_neg h⟩
theorem cls_kn {s : State} {args : Array Value} (hts : ∀ w ∈ lw_g, w.before args s = true) : ∃ (dC : Nat → ClassId) (dI : Nat → Nat → Nat), ∀ (k : Nat) (q : vw_C), vwCl[k]? = some q → u_Kn s q.1 q.2.1 q.2.2 (dC k) (dI k) := by
  have h : ∀ k : Nat, ∃ p : ClassId × (Nat → Nat), ∀ q : vw_C, vwCl[k]? = some q → u_Kn s q.1 q.2.1 q.2.2 p.1 p.2 := by
    intro k
    have f : ∀ q : vw_C, vwCl[k]? = some q → Cond.instantiable q.1 q.2.2 ∈ lw_g → ∃ p : ClassId × (Nat → Nat), ∀ q : vw_C, vwCl[k]? = some q → u_Kn s q.1 q.2.1 q.2.2 p.1 p.2 := by
      intro q hq hi
      obtain ⟨cC, iS, hk⟩ := u_known (T := q.2.1) (N := q.2.2) hts (cls_ok hq).1 (hts _ hi)
      exact ⟨(cC, iS), fun q' hq' => by rw [hq] at hq'; cases hq'; exact hk⟩
    match k with
    | 0 => exact f _ rfl ins_X0
    | 1 => exact f _ rfl ins_X1
    | 2 => exact f _ rfl ins_X2
    | 3 => exact f _ rfl ins_X3
    | 4 => exact f _ rfl ins_X4
    | 5 => exact f _ rfl ins_X5
    | 6 => exact f _ rfl ins_X6
    | k + 7 => exact ⟨(0, fun _ => 0), fun q hq => by simp [vwCl] at hq⟩
  obtain ⟨p, hp⟩ := Classical.axiomOfChoice h
  exact ⟨fun k => (p k).1, fun k => (p k).2, hp⟩
theorem arr_prim {s : State} {args : Array Value} {ty : FieldType} (h : (Cond.arrayClass ty).before args s = true) (hty : ∀ C, ty ≠ .object C) : ∃ cA : ClassId, ArrOfT s cA ty ∧ va_RA s cA ty := by
  obtain ⟨cA, kA, comp, h1, h2, h3⟩ := Cond.arrayClass_spec h
  refine ⟨cA, fun n z => ⟨(fun k q => by cases q), kA, h2, comp, h3⟩, ?_⟩
  cases ty with
  | object C => exact absurd rfl (hty C)
  | _ => exact h1
theorem arr_obj {s : State} {args : Array Value} {C : String} (h : (Cond.arrayOver (.object C)).before args s = true) : ∃ cA : ClassId, ArrOfT s cA (.object C) ∧ va_RA s cA (.object C) := by
  obtain ⟨comp, cA, kA, h1, h2, h3, h4, h5⟩ := Cond.arrayOver_spec h
  exact ⟨cA, fun n z => ⟨(fun k q => by cases q), kA, h3, comp, h4⟩, kA, comp, h3, h4, h1, h5⟩
/-- from the entry, for every script of at most 2560 ints, the law comes to its end with true -/
theorem whole_start {p : Program} {e : Env} {s : State} {m : MethodId} {below : List Frame} {meth : Method} {c : Code} (l : Launch) {b L : Nat} {xs : Nat → Int32} (hL : L ≤ 2560) (C0 : lw_At p s m meth c b L xs) : W p l e room_1 s m #[Value.ref b] below meth c s.heap [] 0 0 (lw_Z below #[Value.ref b] s) (entryFrame m ([Value.ref b] : List Value).toArray 4) := by
  obtain ⟨hx, hb, hr, hml, hown, hts0, hX, hbl, hlocks, hgv, hnm⟩ := id C0
  have hts : ∀ w ∈ lw_g, w.before #[Value.ref b] s = true := fun w hw => hts0 w (lw_g_sub w hw)
  obtain ⟨dC, dI, hKc⟩ := cls_kn hts
  obtain ⟨a11, h11⟩ := arr_prim (hts _ ac_byte) (fun C h => by cases h)
  obtain ⟨a12, h12⟩ := arr_prim (hts _ ac_int) (fun C h => by cases h)
  obtain ⟨a13, h13⟩ := arr_prim (hts _ ac_long) (fun C h => by cases h)
  obtain ⟨a14, h14⟩ := arr_prim (hts _ ac_short) (fun C h => by cases h)
  obtain ⟨a15, h15⟩ := arr_prim (hts _ ac_boolean) (fun C h => by cases h)
  obtain ⟨a16, h16⟩ := arr_obj (hts _ ao_X2)
  obtain ⟨a17, h17⟩ := arr_obj (hts _ ao_X4)
  obtain ⟨scr, s1, ⟨s2, k2, s3, cm2, s3'⟩, s4, s5, s6⟩ := hX
  obtain ⟨G, hG⟩ : ∃ G : GG, G = (l, (dC, dI), s.heap.size, fun t => if t = 11 then a11 else if t = 12 then a12 else if t = 13 then a13 else if t = 14 then a14 else if t = 15 then a15 else if t = 16 then a16 else if t = 17 then a17 else scr.cls) := ⟨_, rfl⟩
  have g1 : G.1 = l := by rw [hG]
  have g2 : G.2.1 = (dC, dI) := by rw [hG]
  have g3 : G.2.2.1 = s.heap.size := by rw [hG]
  have g11 : G.2.2.2 11 = a11 := by rw [hG]; rfl
  have g12 : G.2.2.2 12 = a12 := by rw [hG]; rfl
  have g13 : G.2.2.2 13 = a13 := by rw [hG]; rfl
  have g14 : G.2.2.2 14 = a14 := by rw [hG]; rfl
  have g15 : G.2.2.2 15 = a15 := by rw [hG]; rfl
  have g16 : G.2.2.2 16 = a16 := by rw [hG]; rfl
  have g17 : G.2.2.2 17 = a17 := by rw [hG]; rfl
  have g18 : G.2.2.2 18 = scr.cls := by rw [hG]; rfl
  have hKK : KK G s := by
    refine ⟨⟨fun k q hq => by rw [g2]; exact hKc k q hq, fun k q hq => ?_⟩, fun n z => ⟨(fun k q => by cases q), k2, by rw [g18]; exact s3, cm2, s3'⟩⟩
    unfold TY at hq
    rw [g11, g12, g13, g14, g15, g16, g17] at hq
    match k, hq with
    | 0, hq => cases hq; exact h11
    | 1, hq => cases hq; exact h12
    | 2, hq => cases hq; exact h13
    | 3, hq => cases hq; exact h14
    | 4, hq => cases hq; exact h15
    | 5, hq => cases hq; exact h16
    | 6, hq => cases hq; exact h17
    | k + 7, hq => simp at hq
  obtain ⟨t1, t2, t3, t4, t5, t6⟩ := mS_f b L s.heap.size xs
  generalize mS b L s.heap.size xs = m0 at *
  have hRep : Rep G m0 s.heap := by
    refine ⟨t4.symm, fun a x ha => ?_, fun a h1 h2 => ?_⟩
    · by_cases ea : a = b
      · subst ea
        rw [cO_scr t1] at ha
        cases ha
        unfold at8
        rw [if_pos t1]
        refine ⟨scr, s1, g18.symm, s2, s4, ?_, fun j hj => ?_⟩
        · rw [s5]
          exact t2.symm
        · have hj : j < gN m0 a := hj
          rw [t3]
          exact s6 j (by omega)
      · exfalso
        unfold cO at ha
        rw [if_pos (t6 a ea)] at ha
        cases ha
    · by_cases ea : a = b
      · subst ea
        exact absurd t1 h2
      · exact absurd (t6 a ea) h1
  obtain ⟨r, mF, ⟨rfl, hz, hn⟩, hE⟩ := law_start (G := G) hL ⟨t1, t2, t3, by rw [t4]; exact hbl⟩
  have F : Fx G uL_law p s m #[Value.ref b] meth c := ⟨hx, hb, hr, hml, hlocks, hown, hnm, hts, hKK⟩
  have hz : zz mF ≤ zz m0 + room_1.cells := Nat.le_trans hz (Nat.add_le_add_left (Nat.le_of_ble_eq_true rfl) _)
  have hn : nn mF ≤ nn m0 + room_1.slots := Nat.le_trans hn (Nat.add_le_add_left (Nat.le_of_ble_eq_true rfl) _)
  have hRm : Rm 12 (zz m0) (nn m0) mF room_1 := ⟨Nat.le_of_ble_eq_true rfl, Nat.le_of_ble_eq_true rfl, hz, hn⟩
  have hRet : RetOK G uL_law (zz m0) (nn m0) (some (.int (nI 1))) mF p e room_1 s m #[Value.ref b] below meth c (lw_Z below #[Value.ref b] s) := by
    intro i st pc H ls locs hI hd hrp hlo
    rcases hI with ⟨-, -, h3, -⟩ | ⟨v, ty, rfl, -, -, h3, rfl⟩ | ⟨v, -, -, h3, -⟩ | ⟨v, ty, -, -, -, h3, -⟩
    · cases h3
    · have hv : v = nI 1 := by cases h3; rfl
      subst hv
      refine va_forget (fun q hq => by rw [← g3]; exact hlo q hq) ?_
      refine W.widen (k := room_1.cells) (n := room_1.slots) (by omega) (by omega) ?_
      rw [g1]
      exact lw_ret hx hb hr hlocks hd
    · cases h3
    · cases v with
      | none => cases h3
      | some q => cases h3
  have hl := lv_entry ([.ref b]) (n := 4) (Nat.le_of_ble_eq_true rfl)
  rw [lg_entry_eq]
  have w := hE.2 p e room_1 s m #[Value.ref b] below meth c _ F hRm hRet (by rw [g3, t4]; exact Nat.le_refl _) (Nat.le_refl _) (Nat.le_refl _) s.heap _ [] hRep hl (fun x h => absurd h List.not_mem_nil)
  rw [Nat.sub_self, Nat.sub_self, g1] at w
  exact w
set_option maxHeartbeats 4000000 in
theorem lw_walk (l : Launch) (b : Addr) (xs : List Int32) : MetFree l x (headSpec (Jvm.Cond.code x code maxLocals ret :: tables_1) room_1) (lw_P b xs) (fun _ _ _ _ _ => True) lw_Q := by
  refine MetFree.of_bodyS (code := code) (maxLocals := maxLocals) (ret := ret) (by decide) ?_ ?_
  · intro args s m h hn
    obtain ⟨meth, c, h1, h2, h3, h4, h5, h6, -, -⟩ := Cond.code_spec hn (atoms_spec (ws := Jvm.Cond.code x code maxLocals ret :: tables_1) h _ List.mem_cons_self)
    exact ⟨meth, c, h1, h2, h3, h4, h5, h6⟩
  · intro p e s m args below meth c s₁ B hml0 hP _
    obtain ⟨rfl, hx, hbd, hgv⟩ := hP
    obtain ⟨scr, harrAt, hlist, hof, hsmall⟩ := hx
    obtain ⟨hcb, hkn, -, -⟩ := State.arrayAt?_spec harrAt
    have hown : s.vm.findClass R_law = some m.cls := findClass_of_methodNamed B.named
    have hts0 : ∀ c ∈ (Jvm.Cond.code x code maxLocals ret :: tables_1), c.before #[Value.ref b] s = true := atoms_spec (ws := Jvm.Cond.code x code maxLocals ret :: tables_1) B.pre
    have hts : ∀ w ∈ lw_tbl, w.before #[Value.ref b] s = true := k2_hts_sels lw_privs (fun w hw => hts0 w (List.mem_cons_of_mem _ hw)) lw_privs_ok
    have hml : c.maxLocals = 4 := B.maxLocals_eq (hts0 _ List.mem_cons_self)
    have X₀ : Stand p l e room_1 s m #[Value.ref b] below meth c s₁ [] 0 0 := Stand.of_body B
    have hh0 : s₁.heap = s.heap := by rw [B.state]; rfl
    have hsz : scr.slots.size = xs.length := by rw [← Array.length_toList, hlist, List.length_map]
    have hval : ∀ j : Nat, j < xs.length → scr.slots[j]? = some (.int (xs.getD j 0)) := fun j hj => by
      rw [← Array.getElem?_toList, hlist]
      simp [hj]
    have hbl : b < s.heap.size := (Array.getElem?_eq_some_iff.mp hcb).1
    have hX : va_X b xs.length (fun j => xs.getD j 0) s s.heap := ⟨scr, hcb, hof, hkn, hsz, hval⟩
    have K : W p l e room_1 s m #[Value.ref b] below meth c s₁.heap [] 0 0 (lw_Z below #[Value.ref b] s) (entryFrame m ([Value.ref b] : List Value).toArray 4) := by
      rw [hh0]
      exact whole_start l hbd ⟨B.exec, B.bytes, B.returns, hml, hown, hts, hX, hbl, B.notSynchronized, hgv, (name_of_methodNamed B.named B.method).1⟩
    obtain ⟨t, a1, o, b1, b2, b3⟩ := K s₁ rfl X₀
    exact ⟨t, o, a1, b1, b2, b3⟩
theorem lw_pre_spec {args : Array Value} {s : State} (h : (Jvm.Cond.and given_1 narrow_1).before args s = true) (hr : rest_1_c.before args s = true) : ∃ (b : Addr) (xs : List Int32), lw_P b xs args s := by
  have hs := flat_of_before _ h
  have hq := flat_of_before _ hr
  have hc : (Cond.count 1).before args s = true := hs _ (by decide +kernel)
  have harr : (Cond.arrayOf (.arg 0) .int).before args s = true := hs _ (by decide +kernel)
  have hle : (Cond.le (.length (.arg 0)) (.int 2560)).before args s = true := hs _ (by decide +kernel)
  have hlen : (Cond.isInt (.length (.arg 0))).before args s = true := hq _ (by decide +kernel)
  have hall : (Cond.all (.arg 0) (.isInt (.elem (.arg 0) (.index 0)))).before args s = true := hq _ (by decide +kernel)
  obtain ⟨b, xs, hb, hx⟩ := State.ints_of_pre rfl harr hlen hall
  have hsm : xs.length < 2 ^ 31 := hx.choose_spec.2.2.2
  have hev : (Term.length (.arg 0)).eval args s none [] s = some (.int xs.length.toInt32) := hx.length_eval hb
  have hv := Cond.le_ints hev (show (Term.int 2560).eval args s none [] s = some (.int 2560) from rfl)
  have hd : xs.length.toInt32 ≤ 2560 := by
    simpa [Cond.before, Cond.holds, hv] using hle
  have hN : xs.length ≤ 2560 := (Int32.ofNat_le_ofNat hsm (by decide)).mp (show Int32.ofNat xs.length ≤ Int32.ofNat 2560 from hd)
  exact ⟨b, xs, Cond.one_arg hc (show args[0]? = some (.ref b) from hb), hx, hN, h⟩
theorem lw_comes (l : Launch) : Comes l x (Jvm.Cond.code x code maxLocals ret :: tables_1) room_1 (fun tb e args s => Calls_1 tb e args s ∧ rest_1 tb e args s ∧ Pre_1 tb e args s)
    (fun _ _ args s o t => lw_Q args s o t) := by
  intro p e ha hc hk s m args below hf hfit hheap happ hpre
  obtain ⟨b, xs, hP⟩ := lw_pre_spec hpre.2.2 hpre.2.1
  obtain ⟨k, o, h1, h2, h3, hQ⟩ := lw_walk l b xs p e ha hc hk s m args below hf ((Spec.applies_iff_loose hf).mp happ).1 hP trivial
  exact ⟨k, o, h1, h2, h3, hQ⟩
theorem lw_frame {s t : State} {o : Outcome} {args : Array Value} (h : Framed s o t [] room_1.cells room_1.slots) :
    Framed s o t (fieldLocs frame_1_writes args s ++ arrayLocs frame_1_arrays args s ++ staticLocs frame_1_statics s) room_1.cells room_1.slots := h
theorem lw_limb (L : Cond) (hL : ∀ (args : Array Value) (s t : State), L.after args s (.returned (some (.int 1))) t = true) :
    ArmFor flags0 classFile x code maxLocals ret World_1 tables_1 room_1 Calls_1 rest_1 Pre_1
      (fun tb e a s o t => postC L tb e a s o t ∧ Framed s o t (fieldLocs frame_1_writes a s ++ arrayLocs frame_1_arrays a s ++ staticLocs frame_1_statics s) room_1.cells room_1.slots) := by
  intro l _ _ _ p e ha hc hk s m args below hf hfit hheap happ hpre
  obtain ⟨k, o, h1, h2, h3, rfl, hF⟩ := lw_comes l p e ha hc hk s m args below hf hfit hheap happ hpre
  exact ⟨k, _, h1, h2, h3, hL args s _, lw_frame hF⟩
theorem i_vc : Claimed_1_1 ∧ Claimed_1_2 := ⟨lw_limb limb_1_1 (fun args s t => by simp [limb_1_1, Cond.after, Cond.holds, Cond.value]), lw_limb limb_1_2 (fun args s t => Cond.after_iff.mpr (by
  first | (rw [show limb_1_2 = Cond.eq .result (.int 1) from rfl, Cond.eq_ints (x := 1) (y := 1) rfl rfl]; simp; done) | (simp [limb_1_2, Cond.value, Term.eval]; done)))⟩
