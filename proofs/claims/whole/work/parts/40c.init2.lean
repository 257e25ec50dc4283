def okM (m : Mem) (M : Nat) : Prop := gT m M = 7 ∧ M < zz m
theorem okM.s5 {m : Mem} {M : Nat} (h : okM m M) (t n f : Nat) : okM (s5 m t n f M) M := ⟨(s5_T m t n f M h.2).trans h.1, by rw [s5_z]; exact Nat.lt_succ_of_lt h.2⟩
theorem okM.sI {m : Mem} {M f : Nat} {x : Int32} (h : okM m M) : okM (sI m f M x) M := h
section IN5
variable {G : GG} {d : Nat} {z0 n0 : Nat} {r : Option Value} {mF : Mem} {pc : Nat} {lv : List (Nat × Value)} {st : List Value} {m : Mem} {M : Nat}
theorem e_in5 {ty : ArrayType} {t N k i f : Nat} (hO : okM m M) (hd1 : decode uX6_init.2.1 pc = .ok (.newarray ty, 2)) (hd2 : decode uX6_init.2.1 (pc + 2) = .ok (.putfield i, 3)) (hw : Cond.arrayClass (newarray.typeOf ty) ∈ lw_g) (ht : (t = 11 ∨ t = 12 ∨ t = 14 ∨ t = 15 ∨ t = 13) ∧ newarray.typeOf ty = tyA t) (hN : N ≤ 142000) (hk : k < 8) (hl : Cond.fieldLink RX6 i (TX6 k).1 (TX6 k).2.1 (TX6 k).2.2.1 ∈ lw_g) (hfin : (TX6 k).2.2.2 = true) (hdecl : (TX6 k).1 = RX6) (hk2 : (kX 6).getD k 0 = 2) (hn : narrow (tyC 6 k) (.ref (zz m)) = .ref (zz m) ∧ fits (tyC 6 k) (.ref (zz m)) = true) (hf : f = 20 * 6 + k)
    (kk : EvB G d uX6_init z0 n0 r mF (pc + 2 + 3) lv st (s5 m t N f M)) : EvB G d uX6_init z0 n0 r mF pc lv (.int (nI N) :: .ref M :: st) m := by
  subst hf
  refine e_newa (t := t) (N := N) hd1 hw ht (nI_pos (by omega)) (nI_clamp (by omega)) (by omega) ?_
  exact e_putF (ci := 6) (k := k) (a := M) (some (zz m)) hd2 (C := RX6) (T := TX6) (N := 8) rfl hk hl hfin hdecl rfl hk2 hn rfl ((nw_T (by have := hO.2; omega)).trans hO.1) kk
end IN5
set_option maxRecDepth 100000 in
set_option maxHeartbeats 400000 in
theorem m_init {G : GG} {m : Mem} {M : Nat} (hT : gT m M = 7) (hM : M < zz m) : Ev G 1 uX6_init [.ref M] m none (MM (inM m 142000 M) (inX m M) (inK, (fun _ => 0), (fun _ => 0))) := by
  refine Ev.of (by decide +kernel) (Nat.le_of_ble_eq_true rfl) ?_
  refine e_lvs (lv' := [(0, .ref M)]) rfl ?_
  have hX := in_W (N := 142000) hT hM rfl
  have h2 := m_init2 (G := G) (z0 := zz m) (n0 := nn m) hX rfl
  rw [← in_mm (m := m) (N := 142000) (M := M)] at h2
  have h2 : EvB G 1 uX6_init (zz m) (nn m) none (MM (inM m 142000 M) (inX m M) (inK, (fun _ => 0), (fun _ => 0))) 52 [(0, .ref M)] [] (inM m 142000 M) := h2
  generalize MM (inM m 142000 M) (inX m M) (inK, (fun _ => 0), (fun _ => 0)) = mF at h2 ⊢
  generalize hz0 : zz m = z0 at h2 ⊢
  generalize nn m = n0 at h2 ⊢
  unfold inM at h2
  have o0 : okM m M := ⟨hT, by omega⟩
  have o1 := o0.s5 12 142000 120
  have o2 := o1.s5 13 200 121
  have o3 := o2.s5 12 142000 122
  have o4 := o3.s5 13 200 123
  have o5 : okM (sI (s5 (s5 (s5 (s5 m 12 142000 120 M) 13 200 121 M) 12 142000 122 M) 13 200 123 M) 126 M (-1)) M := o4.sI
  refine e_aload_n 0 dX6_init_0 rfl ?_
  refine e_objInit dX6_init_1 lkm_X6_1 im_obj code_obj (by decide) ?_
  refine e_aload_n 0 dX6_init_4 rfl ?_
  refine e_ldc dX6_init_5 cs_X6_7 ?_
  refine e_iv (w := nI 142000) (by decide) ?_
  refine e_in5 (t := 12) (f := 120) o0 dX6_init_7 dX6_init_9 ac_int ⟨by decide, rfl⟩ (by decide) (by decide) fl_X6_8m rfl rfl rfl ⟨rfl, rfl⟩ rfl ?_
  generalize s5 m 12 142000 120 M = m1 at o1 o2 o3 o4 o5 h2 ⊢
  refine e_aload_n 0 dX6_init_12 rfl ?_
  refine e_sipush (v := nI 200) dX6_init_13 (by decide) ?_
  refine e_in5 (t := 13) (f := 121) o1 dX6_init_16 dX6_init_18 ac_long ⟨by decide, rfl⟩ (by decide) (by decide) fl_X6_14m rfl rfl rfl ⟨rfl, rfl⟩ rfl ?_
  generalize s5 m1 13 200 121 M = m2 at o2 o3 o4 o5 h2 ⊢
  refine e_aload_n 0 dX6_init_21 rfl ?_
  refine e_ldc dX6_init_22 cs_X6_7 ?_
  refine e_iv (w := nI 142000) (by decide) ?_
  refine e_in5 (t := 12) (f := 122) o2 dX6_init_24 dX6_init_26 ac_int ⟨by decide, rfl⟩ (by decide) (by decide) fl_X6_18m rfl rfl rfl ⟨rfl, rfl⟩ rfl ?_
  generalize s5 m2 12 142000 122 M = m3 at o3 o4 o5 h2 ⊢
  refine e_aload_n 0 dX6_init_29 rfl ?_
  refine e_sipush (v := nI 200) dX6_init_30 (by decide) ?_
  refine e_in5 (t := 13) (f := 123) o3 dX6_init_33 dX6_init_35 ac_long ⟨by decide, rfl⟩ (by decide) (by decide) fl_X6_21m rfl rfl rfl ⟨rfl, rfl⟩ rfl ?_
  generalize s5 m3 13 200 123 M = m4 at o4 o5 h2 ⊢
  refine e_aload_n 0 dX6_init_38 rfl ?_
  refine e_ic (-1) dX6_init_39 (by decide) ?_
  refine e_putI (ci := 6) (k := 6) dX6_init_40 fl_X6_24 rfl (fun q h => by cases h; rfl) ⟨rfl, rfl⟩ o4.1 ?_
  refine e_mem (m' := sI m4 126 M (-1)) rfl ?_
  generalize sI m4 126 M (-1) = m5 at o5 h2 ⊢
  refine e_aload_n 0 dX6_init_43 rfl ?_
  refine e_sipush (v := nI 200) dX6_init_44 (by decide) ?_
  refine e_in5 (t := 15) (f := 127) o5 dX6_init_47 dX6_init_49 ac_boolean ⟨by decide, rfl⟩ (by decide) (by decide) fl_X6_28m rfl rfl rfl ⟨rfl, rfl⟩ rfl ?_
  exact h2
