/-! the reference: turn -/
section Model13
variable {G : GG} {m : Mem} {X : XX} {kf : KF} {vf : VF} {lf : Nat → Int32}
set_option maxRecDepth 100000 in
set_option maxHeartbeats 4000000 in
theorem m_turnL (hX : MW m X) {t z0 n0 : Nat} {mF : Mem} : ∀ (f : Nat) (kf : KF) (vf : VF) (n a : Nat), WF kf n → t < n → kg kf t 6 = 0 → kg kf t 5 = nI a → a ≤ 1001 → 1001 < a + 2 * f → MM m X ((tnL f kf vf t).1, (tnL f kf vf t).2, lf) = mF → EvB G 9 uX6_turn z0 n0 none mF 5 [(0, .ref X.1), (1, .int (nI t))] [] (MM m X (kf, vf, lf)) := by
  intro f
  induction f with
  | zero => intro kf vf n a hW ht h6 ha ha2 hf; omega
  | succ f ih =>
      intro kf vf n a hW ht h6 ha ha2 hf hM
      have hn2 := hW.1.2
      refine e_aload_n 0 dX6_turn_5 rfl ?_
      refine e_iload_n 1 dX6_turn_6 rfl ?_
      refine e_ic (nI 4) dX6_turn_7 (by decide) ?_
      refine e_callV (ci := 6) (st := []) (st1 := [.int (kg kf t 4)]) (As := [.int (nI t), .int (nI 4)]) (m_get hX (kg_lt (by omega) (by omega))) dX6_turn_8 (by decide) cm_X6_get lk_X6_36 im_X6_get rfl sel_X6_get hX.1 rfl rfl (Nat.le_of_ble_eq_true rfl) rfl ?_
      refine e_if_le 29 dX6_turn_11 (by decide) (fun h1 => ?_) (fun h1 => ?_)
      · skip
        have h1' := Int32.not_lt.mpr h1
        obtain ⟨⟨n2, hn2b, hW2⟩, h5e, h6e⟩ := lf_act (vf := vf) hW ht h6
        refine e_aload_n 0 dX6_turn_29 rfl ?_
        refine e_iload_n 1 dX6_turn_30 rfl ?_
        refine e_callV (ci := 6) (st := []) (st1 := [.int ((actF kf vf t).1)]) (As := [.int (nI t)]) (m_act hX hW ht) dX6_turn_31 (by decide) cm_X6_act lk_X6_82 im_X6_act rfl sel_X6_act hX.1 rfl rfl (Nat.le_of_ble_eq_true rfl) rfl ?_
        refine e_istore_n (lv' := [(2, .int ((actF kf vf t).1)), (0, .ref X.1), (1, .int (nI t))]) dX6_turn_34 (by decide) rfl ?_
        refine e_iload_n 0 dX6_turn_35 rfl ?_
        refine e_if_gt 45 dX6_turn_36 (by decide) (fun h2 => ?_) (fun h2 => ?_)
        · skip
          have h2' := Int32.not_le.mpr h2
          refine e_aload_n 1 dX6_turn_45 rfl ?_
          refine e_iload_n 2 dX6_turn_46 rfl ?_
          refine e_iload_n 0 dX6_turn_47 rfl ?_
          refine e_if_le 55 dX6_turn_48 (by decide) (fun h => absurd h (Int32.not_le.mpr h2)) (fun _ => ?_)
          refine e_iload_n 0 dX6_turn_51 rfl ?_
          refine e_goto 56 dX6_turn_52 (by decide) ?_
          refine e_callV (ci := 6) (st := []) (st1 := []) (As := [.int (nI t), .int ((actF kf vf t).1)]) (m_ends hX hW2 (by omega)) dX6_turn_56 (by decide) cm_X6_ends lk_X6_85 im_X6_ends rfl sel_X6_ends hX.1 rfl rfl (Nat.le_of_ble_eq_true rfl) rfl ?_
          have hm := mm_tn hM (tn_p f h1' h2)
          dsimp only at hm
          exact e_retV dX6_turn_59 rfl rfl hm
        · skip
          have h2' := Int32.not_lt.mp h2
          refine e_iload_n 0 dX6_turn_39 rfl ?_
          refine e_bipush (v := (-2)) dX6_turn_40 (by decide) ?_
          refine e_icmp_ne 60 dX6_turn_42 (by decide) (fun h3 => ?_) (fun h3 => ?_)
          · skip
            refine e_aload_n 1 dX6_turn_60 rfl ?_
            refine e_iload_n 2 dX6_turn_61 rfl ?_
            refine e_ic (nI 5) dX6_turn_62 (by decide) ?_
            refine e_aload_n 1 dX6_turn_63 rfl ?_
            refine e_iload_n 2 dX6_turn_64 rfl ?_
            refine e_ic (nI 5) dX6_turn_65 (by decide) ?_
            refine e_callV (ci := 6) (st := [.int (nI 5), .int (nI t), .ref X.1]) (st1 := [.int (kg (actF kf vf t).2.1 t 5), .int (nI 5), .int (nI t), .ref X.1]) (As := [.int (nI t), .int (nI 5)]) (m_get hX (kg_lt (by omega) (by omega))) dX6_turn_66 (by decide) cm_X6_get lk_X6_36 im_X6_get rfl sel_X6_get hX.1 rfl rfl (Nat.le_of_ble_eq_true rfl) rfl ?_
            refine e_ic (nI 2) dX6_turn_69 (by decide) ?_
            refine e_iadd dX6_turn_70 ?_
            refine e_callV (ci := 6) (st := []) (st1 := []) (As := [.int (nI t), .int (nI 5), .int ((kg (actF kf vf t).2.1 t 5) + (nI 2))]) (m_set hX (kg_lt (by omega) (by decide))) dX6_turn_71 (by decide) cm_X6_set lk_X6_59 im_X6_set rfl sel_X6_set hX.1 rfl rfl (Nat.le_of_ble_eq_true rfl) rfl ?_
            refine e_iload_n 0 dX6_turn_74 rfl ?_
            refine e_ic ((-1)) dX6_turn_75 (by decide) ?_
            refine e_icmp_ne 80 dX6_turn_76 (by decide) (fun h5 => ?_) (fun h5 => ?_)
            · skip
              refine e_goto 5 dX6_turn_80 (by decide) ?_
              refine e_sub (lv' := [(0, .ref X.1), (1, .int (nI t))]) [1, 2] rfl ?_
              obtain ⟨ha3, n3, hn3, hW3, ha4⟩ := act_on hW ht h6 ha ha2 h2 h3
              have hm := mm_tn hM (tn_n f h1' h2 h3 h5)
              have hk6 : kg (ks (actF kf vf t).2.1 t 5 (kg (actF kf vf t).2.1 t 5 + nI 2)) t 6 = 0 := (kg_ne (actF kf vf t).2.1 t 5 t 6 _ (by decide) (by decide) (by decide)).trans ((h6e h5).trans h6)
              generalize ks (actF kf vf t).2.1 t 5 (kg (actF kf vf t).2.1 t 5 + nI 2) = K at hW3 ha4 hk6 hm ⊢
              generalize (actF kf vf t).2.2 = V at hm ⊢
              exact ih K V n3 (a + 2) hW3 (by omega) hk6 ha4 ha3 (by omega) hm
            · skip
              have hm := mm_tn hM (tn_o f h1' h2 h3 h5)
              dsimp only at hm
              exact e_retV dX6_turn_79 rfl rfl hm
          · skip
            refine e_aload_n 1 dX6_turn_45 rfl ?_
            refine e_iload_n 2 dX6_turn_46 rfl ?_
            refine e_iload_n 0 dX6_turn_47 rfl ?_
            refine e_if_le 55 dX6_turn_48 (by decide) (fun _ => ?_) (fun h => absurd h (not_not_intro (Int32.not_lt.mp h2)))
            refine e_ic (nI 0) dX6_turn_55 (by decide) ?_
            refine e_callV (ci := 6) (st := []) (st1 := []) (As := [.int (nI t), .int (nI 0)]) (m_ends hX hW2 (by omega)) dX6_turn_56 (by decide) cm_X6_ends lk_X6_85 im_X6_ends rfl sel_X6_ends hX.1 rfl rfl (Nat.le_of_ble_eq_true rfl) rfl ?_
            have hm := mm_tn hM (tn_e f h1' h2 h3)
            dsimp only at hm
            exact e_retV dX6_turn_59 rfl rfl hm
      · skip
        have h1' := Int32.not_le.mp h1
        refine e_aload_n 0 dX6_turn_14 rfl ?_
        refine e_iload_n 1 dX6_turn_15 rfl ?_
        refine e_ic (nI 4) dX6_turn_16 (by decide) ?_
        refine e_aload_n 0 dX6_turn_17 rfl ?_
        refine e_iload_n 1 dX6_turn_18 rfl ?_
        refine e_ic (nI 4) dX6_turn_19 (by decide) ?_
        refine e_callV (ci := 6) (st := [.int (nI 4), .int (nI t), .ref X.1]) (st1 := [.int (kg kf t 4), .int (nI 4), .int (nI t), .ref X.1]) (As := [.int (nI t), .int (nI 4)]) (m_get hX (kg_lt (by omega) (by omega))) dX6_turn_20 (by decide) cm_X6_get lk_X6_36 im_X6_get rfl sel_X6_get hX.1 rfl rfl (Nat.le_of_ble_eq_true rfl) rfl ?_
        refine e_ic (nI 1) dX6_turn_23 (by decide) ?_
        refine e_isub dX6_turn_24 ?_
        refine e_callV (ci := 6) (st := []) (st1 := []) (As := [.int (nI t), .int (nI 4), .int ((kg kf t 4) - (nI 1))]) (m_set hX (kg_lt (by omega) (by decide))) dX6_turn_25 (by decide) cm_X6_set lk_X6_59 im_X6_set rfl sel_X6_set hX.1 rfl rfl (Nat.le_of_ble_eq_true rfl) rfl ?_
        have hm := mm_tn hM (tn_w f h1')
        dsimp only at hm
        exact e_retV dX6_turn_28 rfl rfl hm
set_option maxRecDepth 100000 in
set_option maxHeartbeats 4000000 in
theorem m_turn (hX : MW m X) {n t : Nat} (hW : WF kf n) (ht : t < n) (h6 : kg kf t 6 = 0) : Ev G 9 uX6_turn [.ref X.1, .int (nI t)] (MM m X (kf, vf, lf)) none (MM m X ((tnF kf vf t).1, (tnF kf vf t).2, lf)) := by
  have hn2 := hW.1.2
  refine Ev.of (by decide +kernel) (Nat.le_of_ble_eq_true rfl) ?_
  refine e_lvs (lv' := [(0, .ref X.1), (1, .int (nI t))]) rfl ?_
  refine e_aload_n 0 dX6_turn_0 rfl ?_
  refine e_iload_n 1 dX6_turn_1 rfl ?_
  refine e_callV (ci := 6) (st := []) (st1 := []) (As := [.int (nI t)]) (m_pays hX (by omega) (hW.sh ht)) dX6_turn_2 (by decide) cm_X6_pays lk_X6_79 im_X6_pays rfl sel_X6_pays hX.1 rfl rfl (Nat.le_of_ble_eq_true rfl) rfl ?_
  refine e_sub [0, 1] rfl ?_
  obtain ⟨-, -, ⟨a, ha, ea⟩, -⟩ := hW.2.2.2.2.1 t ht
  exact m_turnL hX 502 _ _ n a (wf_pays hW ht) ht (by rw [pays_oth _ _ _ (by decide) (by omega)]; exact h6) (by rw [pays_oth _ _ _ (by decide) (by omega)]; exact ea) ha (by omega) rfl
end Model13
